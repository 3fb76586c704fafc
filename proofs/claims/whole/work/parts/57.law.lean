/-! THE CLAIM OUT OF ONE WALK OF THE LAW'S BODY. Your part is whole_start (and what it stands on); all else here is the same for every law, but numbers. -/
def R_law : String := "SquareCallerLaw"
def lw_P (b : Addr) (xs : List Int32) (args : Array Value) (s : State) : Prop := args = #[.ref b] ∧ s.IntsAt b xs ∧ xs.length ≤ 1536 ∧ (Jvm.Cond.and given_1 narrow_1).before args s = true
def lw_Q (_ : Array Value) (s : State) (o : Outcome) (t : State) : Prop := o = .returned (some (.int 1)) ∧ Framed s o t [] 59 8824
def lw_Z (below : List Frame) (a : Array Value) (s : State) : State → Prop := fun t => ∃ o, t.status = .running ∧ Ended t below o ∧ lw_Q a s o t
/-- the law's own end, with 1 on the stack, nothing written that was there before, its room as the claim has it -/
theorem lw_ret {p : Program} {l : Launch} {e : Env} {s : State} {m : MethodId} {below : List Frame} {meth : Method} {c : Code} {b : Nat} (hx : p.tables.exec = Jvm.exec) (hb : c.code = code) (hr : meth.sig.returnType = ret) (hlocks : meth.locks = false) {pc : Nat} {H : Heap} {ls : Array Slot} (hdg : decode code pc = .ok (.ireturn, 1)) : W p l e room_1 s m #[Value.ref b] below meth c H [] 59 8824 (lw_Z below #[Value.ref b] s) (F0 m pc ls [.int 1]) := by
  intro T hT X
  obtain ⟨fs, hret, hrun, hended, hW, hframe⟩ := X.leave (v := some (.int 1)) (hlocks := hlocks) (fun h => by rw [hr] at h; cases h)
  have hmeth' : T.vm.method? m = some meth := X.method'
  refine ⟨T.setFrames fs, ?_, .returned (some (.int 1)), hrun, hended, rfl, ⟨_, rfl⟩, hW, hframe⟩
  jvm_step X.here [X.here.top, hx, hb, hdg, hmeth', hr, ret, narrow_b1]
  (try refine ⟨rfl, ?_⟩); (try refine ⟨rfl, ?_⟩)
  first | (intro acts; rw [hret _ acts rfl rfl rfl]) | rw [hret _ _ rfl rfl rfl]
  exact Steps.refl _
/-- what holds at the law's entry: the machine, the code, the tables' words (any of lw_tbl by 'hts w (by decide +kernel)'), the script of L ints xs at the cell b, what the Statement gives of the start (any of its parts by flat_of_before) -/
def lw_At (p : Program) (s : State) (m : MethodId) (meth : Method) (c : Code) (b L : Nat) (xs : Nat → Int32) : Prop :=
  p.tables.exec = Jvm.exec ∧ c.code = code ∧ meth.sig.returnType = ret ∧ c.maxLocals = 4 ∧ s.vm.findClass R_law = some m.cls ∧ (∀ w ∈ lw_tbl, w.before #[Value.ref b] s = true) ∧ va_X b L xs s s.heap ∧ b < s.heap.size ∧ meth.locks = false ∧ (Jvm.Cond.and given_1 narrow_1).before #[Value.ref b] s = true
/-! ===== the law's walk ===== -/
abbrev mLw (nm : String) : MI := (⟨RL, nm, "([I)Z"⟩, code, 4, ret)
def Zl : ZT := fun below args s _ _ _ _ => lw_Z below args s
def Xl (b L : Nat) (xs : Nat → Int32) : XT := fun args s ad0 A => args = #[Value.ref b] ∧ va_X b L xs s s.heap ∧ b < s.heap.size ∧ ¬ A b ∧ ad0 5000 = b ∧ ∀ q, A q → s.heap.size ≤ q
section LW
variable {nm : String} {b L : Nat} {xs : Nat → Int32} {w0 : WD} {pc : Nat} {ls : List (Option Value)} {st : List Value} {w : WD} {nc ns : Nat}
theorem r_scri {j : Nat} {i : Int32} (hd : decode (mLw nm).2.1 pc = .ok (.iaload, 1)) (hi : i = nI j) (hj : j < L) (hL : L < 2 ^ 31) (K : Rq Zl (Xl b L xs) (mLw nm) 13 59 8824 w0 nc ns (pc + 1) ls (.int (xs j) :: st) w) : Rq Zl (Xl b L xs) (mLw nm) 13 59 8824 w0 nc ns pc ls (.int i :: .ref 5000 :: st) w := by
  subst hi
  intro p l e s m args below meth c D cA ad0 A hC hX ad H locs lsA hg hP hD hS hl
  have K := K p l e s m args below meth c D cA ad0 A hC hX ad H locs lsA hg hP hD hS hl
  obtain ⟨hx, hb, hml, hrt, hlk, hnm, hown, hts, hK, hA, hSt⟩ := hC
  obtain ⟨x1, x2, x3, x4, x5, x6⟩ := hX
  have e5 : ad 5000 = b := (hg.2 5000 (Or.inr (by decide))).trans x5
  have h2 : (.int (nI j) :: .ref 5000 :: st : List Value).map (cv ad) = .int (nI j) :: .ref b :: st.map (cv ad) := by
    show Value.int (nI j) :: Value.ref (ad 5000) :: st.map (cv ad) = _
    rw [e5]
  rw [h2]
  refine va_sld hx hb x2 x3 x4 hS (vp_in_nI hj hL) hd ?_
  rw [nI_clamp (Nat.lt_trans hj hL)]
  exact K
theorem r_scrl (hd : decode (mLw nm).2.1 pc = .ok (.arraylength, 1)) (K : Rq Zl (Xl b L xs) (mLw nm) 13 59 8824 w0 nc ns (pc + 1) ls (.int (nI L) :: st) w) : Rq Zl (Xl b L xs) (mLw nm) 13 59 8824 w0 nc ns pc ls (.ref 5000 :: st) w := by
  intro p l e s m args below meth c D cA ad0 A hC hX ad H locs lsA hg hP hD hS hl
  have K := K p l e s m args below meth c D cA ad0 A hC hX ad H locs lsA hg hP hD hS hl
  obtain ⟨hx, hb, hml, hrt, hlk, hnm, hown, hts, hK, hA, hSt⟩ := hC
  obtain ⟨x1, x2, x3, x4, x5, x6⟩ := hX
  have e5 : ad 5000 = b := (hg.2 5000 (Or.inr (by decide))).trans x5
  have h2 : (.ref 5000 :: st : List Value).map (cv ad) = .ref b :: st.map (cv ad) := by
    show Value.ref (ad 5000) :: st.map (cv ad) = _
    rw [e5]
  rw [h2]
  exact va_slen hx hb x2 x3 x4 hS hd K
theorem r_lend (hd : decode (mLw nm).2.1 pc = .ok (.ireturn, 1)) : Rq Zl (Xl b L xs) (mLw nm) 13 59 8824 w0 59 8824 pc ls [.int (nI 1)] w := by
  intro p l e s m args below meth c D cA ad0 A hC hX ad H locs lsA hg hP hD hS hl
  obtain ⟨hx, hb, hml, hrt, hlk, hnm, hown, hts, hK, hA, hSt⟩ := hC
  obtain ⟨rfl, x2, x3, x4, x5, x6⟩ := hX
  refine va_forget (fun q hq => x6 _ (hS.2.2 q hq)) ?_
  exact lw_ret hx hb hrt hlk hd
theorem CI_snd {s : ST} {R : List AE} {w : WD} (h : CIs s R w) : w.2 = R := by
  obtain ⟨tb, tc, tn, fc, ff, fs, ft, fu, fw, fy, fd, dc, dp, dq, ec, ep, eq, em, lr, wr, wf, wb, wn, gz, wc, ws, wa, pw, pf, pl, ta, rfl, -⟩ := h
  rfl
theorem RI_fst {s : ST} {Q : List AE} {w : WD} (h : RIs s Q w) : w.1 = Q := by
  obtain ⟨rc, rf, ro, rt, ru, rm, rg, rp, rq, ry, rl, wt, rk, rx, rz, rd, rT, rR, rN, rA, rF, rC, rO, rB, rY, rP, rb, rfl, -⟩ := h
  rfl
theorem CI_mv {s : ST} {R : List AE} {w w' : WD} (h : CIs s R w) (e : w'.1 = w.1) : CIs s w'.2 w' := by
  obtain ⟨tb, tc, tn, fc, ff, fs, ft, fu, fw, fy, fd, dc, dp, dq, ec, ep, eq, em, lr, wr, wf, wb, wn, gz, wc, ws, wa, pw, pf, pl, ta, rfl, hr⟩ := h
  exact ⟨tb, tc, tn, fc, ff, fs, ft, fu, fw, fy, fd, dc, dp, dq, ec, ep, eq, em, lr, wr, wf, wb, wn, gz, wc, ws, wa, pw, pf, pl, ta, Prod.ext e rfl, hr⟩
theorem RI_mv {s : ST} {Q : List AE} {w w' : WD} (h : RIs s Q w) (e : w'.2 = w.2) : RIs s w'.1 w' := by
  obtain ⟨rc, rf, ro, rt, ru, rm, rg, rp, rq, ry, rl, wt, rk, rx, rz, rd, rT, rR, rN, rA, rF, rC, rO, rB, rY, rP, rb, rfl, hr⟩ := h
  exact ⟨rc, rf, ro, rt, ru, rm, rg, rp, rq, ry, rl, wt, rk, rx, rz, rd, rT, rR, rN, rA, rF, rC, rO, rB, rY, rP, rb, Prod.ext rfl e, hr⟩
theorem CI_SI {s : ST} {R : List AE} {w : WD} (h : CIs s R w) : SIs s := by
  obtain ⟨tb, tc, tn, fc, ff, fs, ft, fu, fw, fy, fd, dc, dp, dq, ec, ep, eq, em, lr, wr, wf, wb, wn, gz, wc, ws, wa, pw, pf, pl, ta, rfl, hr, -⟩ := h
  exact hr
theorem CI_wg {s : ST} {R : List AE} {w : WD} (h : CIs s R w) : ∃ fs, wg w 0 = some (.inr (6, fs)) := by
  obtain ⟨tb, tc, tn, fc, ff, fs, ft, fu, fw, fy, fd, dc, dp, dq, ec, ep, eq, em, lr, wr, wf, wb, wn, gz, wc, ws, wa, pw, pf, pl, ta, rfl, -⟩ := h
  exact ⟨_, rfl⟩
theorem RI_wg {s : ST} {Q : List AE} {w : WD} (h : RIs s Q w) : ∃ fs, wg w 100 = some (.inr (7, fs)) := by
  obtain ⟨rc, rf, ro, rt, ru, rm, rg, rp, rq, ry, rl, wt, rk, rx, rz, rd, rT, rR, rN, rA, rF, rC, rO, rB, rY, rP, rb, rfl, -⟩ := h
  exact ⟨_, rfl⟩
def Jn (w : WD) : Prop := ∃ s : ST, CIs s w.2 w ∧ RIs s w.1 w
theorem w_feed {i : Nat} (hL : L ≤ 1536) (hi : i + 3 ≤ L) (F : ∀ w, Jn w → Rq Zl (Xl b L xs) (mLw nm) 13 59 8824 w0 59 8824 545 [some (.ref 5000), some (.ref 0), some (.ref 100), some (.int (nI i))] [] w) (hJ : Jn w) : Rq Zl (Xl b L xs) (mLw nm) 13 59 8824 w0 59 8824 132 [some (.ref 5000), some (.ref 0), some (.ref 100), some (.int (nI i))] [] w := by
  obtain ⟨s, hC, hR⟩ := hJ
  obtain ⟨a, s', h1, h2⟩ := p_feed (xs (i + 1)) s (CI_SI hC)
  obtain ⟨fs, hw1⟩ := CI_wg hC
  refine r_aload_n dL_law_132 rfl ?_
  refine r_aload_n dL_law_133 rfl ?_
  refine r_iload_n dL_law_134 rfl ?_
  refine r_iconst (v := (nI 1)) dL_law_135 (by decide) ?_
  refine r_iaddN dL_law_136 ?_
  refine r_scri (j := i + 1) dL_law_137 rfl (by omega) (by omega) ?_
  refine r_cVP dL_law_138 (h1 _ _ hC) lL_13 rfl hw1 rfl (by decide) ⟨Nat.le_refl _, Nat.le_refl _⟩ (Nat.le_of_ble_eq_true rfl) (fun r w2 hp => ?_)
  obtain ⟨rfl, hC2⟩ := hp
  have hR2 := RI_mv hR (CI_snd hC2)
  obtain ⟨fs2, hw2⟩ := RI_wg hR2
  refine r_pc 141 rfl ?_
  refine r_aload_n dL_law_141 rfl ?_
  refine r_aload_n dL_law_142 rfl ?_
  refine r_iload_n dL_law_143 rfl ?_
  refine r_iconst (v := (nI 1)) dL_law_144 (by decide) ?_
  refine r_iaddN dL_law_145 ?_
  refine r_scri (j := i + 1) dL_law_146 rfl (by omega) (by omega) ?_
  refine r_cVP dL_law_147 (h2 _ _ hR2) lL_17 rfl hw2 rfl (by decide) ⟨Nat.le_refl _, Nat.le_refl _⟩ (Nat.le_of_ble_eq_true rfl) (fun r w3 hp3 => ?_)
  obtain ⟨rfl, hR3⟩ := hp3
  have e3 := RI_fst hR3
  have hC3 := CI_mv hC2 e3
  rw [← e3] at hR3
  refine r_pc 150 rfl ?_
  exact r_icmp_eq 545 dL_law_150 (by decide) (fun _ => F w3 ⟨s', hC3, hR3⟩) (fun h => absurd rfl h)
theorem w_dance {i : Nat} (hL : L ≤ 1536) (hi : i + 3 ≤ L) (F : ∀ w, Jn w → Rq Zl (Xl b L xs) (mLw nm) 13 59 8824 w0 59 8824 545 [some (.ref 5000), some (.ref 0), some (.ref 100), some (.int (nI i))] [] w) (hJ : Jn w) : Rq Zl (Xl b L xs) (mLw nm) 13 59 8824 w0 59 8824 155 [some (.ref 5000), some (.ref 0), some (.ref 100), some (.int (nI i))] [] w := by
  obtain ⟨s, hC, hR⟩ := hJ
  obtain ⟨a, s', h1, h2⟩ := p_dance s (CI_SI hC)
  obtain ⟨fs, hw1⟩ := CI_wg hC
  refine r_aload_n dL_law_155 rfl ?_
  refine r_cVP dL_law_156 (h1 _ _ hC) lL_18 rfl hw1 rfl (by decide) ⟨Nat.le_refl _, Nat.le_refl _⟩ (Nat.le_of_ble_eq_true rfl) (fun r w2 hp => ?_)
  obtain ⟨rfl, hC2⟩ := hp
  have hR2 := RI_mv hR (CI_snd hC2)
  obtain ⟨fs2, hw2⟩ := RI_wg hR2
  refine r_pc 159 rfl ?_
  refine r_aload_n dL_law_159 rfl ?_
  refine r_cVP dL_law_160 (h2 _ _ hR2) lL_22 rfl hw2 rfl (by decide) ⟨Nat.le_refl _, Nat.le_refl _⟩ (Nat.le_of_ble_eq_true rfl) (fun r w3 hp3 => ?_)
  obtain ⟨rfl, hR3⟩ := hp3
  have e3 := RI_fst hR3
  have hC3 := CI_mv hC2 e3
  rw [← e3] at hR3
  refine r_pc 163 rfl ?_
  exact r_icmp_eq 545 dL_law_163 (by decide) (fun _ => F w3 ⟨s', hC3, hR3⟩) (fun h => absurd rfl h)
theorem w_fall {i : Nat} (hL : L ≤ 1536) (hi : i + 3 ≤ L) (F : ∀ w, Jn w → Rq Zl (Xl b L xs) (mLw nm) 13 59 8824 w0 59 8824 545 [some (.ref 5000), some (.ref 0), some (.ref 100), some (.int (nI i))] [] w) (hJ : Jn w) : Rq Zl (Xl b L xs) (mLw nm) 13 59 8824 w0 59 8824 168 [some (.ref 5000), some (.ref 0), some (.ref 100), some (.int (nI i))] [] w := by
  obtain ⟨s, hC, hR⟩ := hJ
  obtain ⟨a, s', h1, h2⟩ := p_fall (xs (i + 1)) s (CI_SI hC)
  obtain ⟨fs, hw1⟩ := CI_wg hC
  refine r_aload_n dL_law_168 rfl ?_
  refine r_aload_n dL_law_169 rfl ?_
  refine r_iload_n dL_law_170 rfl ?_
  refine r_iconst (v := (nI 1)) dL_law_171 (by decide) ?_
  refine r_iaddN dL_law_172 ?_
  refine r_scri (j := i + 1) dL_law_173 rfl (by omega) (by omega) ?_
  refine r_cVP dL_law_174 (h1 _ _ hC) lL_23 rfl hw1 rfl (by decide) ⟨Nat.le_refl _, Nat.le_refl _⟩ (Nat.le_of_ble_eq_true rfl) (fun r w2 hp => ?_)
  obtain ⟨rfl, hC2⟩ := hp
  have hR2 := RI_mv hR (CI_snd hC2)
  obtain ⟨fs2, hw2⟩ := RI_wg hR2
  refine r_pc 177 rfl ?_
  refine r_aload_n dL_law_177 rfl ?_
  refine r_aload_n dL_law_178 rfl ?_
  refine r_iload_n dL_law_179 rfl ?_
  refine r_iconst (v := (nI 1)) dL_law_180 (by decide) ?_
  refine r_iaddN dL_law_181 ?_
  refine r_scri (j := i + 1) dL_law_182 rfl (by omega) (by omega) ?_
  refine r_cVP dL_law_183 (h2 _ _ hR2) lL_26 rfl hw2 rfl (by decide) ⟨Nat.le_refl _, Nat.le_refl _⟩ (Nat.le_of_ble_eq_true rfl) (fun r w3 hp3 => ?_)
  obtain ⟨rfl, hR3⟩ := hp3
  have e3 := RI_fst hR3
  have hC3 := CI_mv hC2 e3
  rw [← e3] at hR3
  refine r_pc 186 rfl ?_
  exact r_icmp_eq 545 dL_law_186 (by decide) (fun _ => F w3 ⟨s', hC3, hR3⟩) (fun h => absurd rfl h)
theorem w_would {i : Nat} (hL : L ≤ 1536) (hi : i + 3 ≤ L) (F : ∀ w, Jn w → Rq Zl (Xl b L xs) (mLw nm) 13 59 8824 w0 59 8824 545 [some (.ref 5000), some (.ref 0), some (.ref 100), some (.int (nI i))] [] w) (hJ : Jn w) : Rq Zl (Xl b L xs) (mLw nm) 13 59 8824 w0 59 8824 191 [some (.ref 5000), some (.ref 0), some (.ref 100), some (.int (nI i))] [] w := by
  obtain ⟨s, hC, hR⟩ := hJ
  obtain ⟨a, s', h1, h2⟩ := p_would s (CI_SI hC)
  obtain ⟨fs, hw1⟩ := CI_wg hC
  refine r_aload_n dL_law_191 rfl ?_
  refine r_cVP dL_law_192 (h1 _ _ hC) lL_27 rfl hw1 rfl (by decide) ⟨Nat.le_refl _, Nat.le_refl _⟩ (Nat.le_of_ble_eq_true rfl) (fun r w2 hp => ?_)
  obtain ⟨rfl, hC2⟩ := hp
  have hR2 := RI_mv hR (CI_snd hC2)
  obtain ⟨fs2, hw2⟩ := RI_wg hR2
  refine r_pc 195 rfl ?_
  refine r_aload_n dL_law_195 rfl ?_
  refine r_cVP dL_law_196 (h2 _ _ hR2) lL_30 rfl hw2 rfl (by decide) ⟨Nat.le_refl _, Nat.le_refl _⟩ (Nat.le_of_ble_eq_true rfl) (fun r w3 hp3 => ?_)
  obtain ⟨rfl, hR3⟩ := hp3
  have e3 := RI_fst hR3
  have hC3 := CI_mv hC2 e3
  rw [← e3] at hR3
  refine r_pc 199 rfl ?_
  exact r_icmp_eq 545 dL_law_199 (by decide) (fun _ => F w3 ⟨s', hC3, hR3⟩) (fun h => absurd rfl h)
theorem w_undo {i : Nat} (hL : L ≤ 1536) (hi : i + 3 ≤ L) (F : ∀ w, Jn w → Rq Zl (Xl b L xs) (mLw nm) 13 59 8824 w0 59 8824 545 [some (.ref 5000), some (.ref 0), some (.ref 100), some (.int (nI i))] [] w) (hJ : Jn w) : Rq Zl (Xl b L xs) (mLw nm) 13 59 8824 w0 59 8824 204 [some (.ref 5000), some (.ref 0), some (.ref 100), some (.int (nI i))] [] w := by
  obtain ⟨s, hC, hR⟩ := hJ
  obtain ⟨a, s', h1, h2⟩ := p_undo s (CI_SI hC)
  obtain ⟨fs, hw1⟩ := CI_wg hC
  refine r_aload_n dL_law_204 rfl ?_
  refine r_cVP dL_law_205 (h1 _ _ hC) lL_31 rfl hw1 rfl (by decide) ⟨Nat.le_refl _, Nat.le_refl _⟩ (Nat.le_of_ble_eq_true rfl) (fun r w2 hp => ?_)
  obtain ⟨rfl, hC2⟩ := hp
  have hR2 := RI_mv hR (CI_snd hC2)
  obtain ⟨fs2, hw2⟩ := RI_wg hR2
  refine r_pc 208 rfl ?_
  refine r_aload_n dL_law_208 rfl ?_
  refine r_cVP dL_law_209 (h2 _ _ hR2) lL_34 rfl hw2 rfl (by decide) ⟨Nat.le_refl _, Nat.le_refl _⟩ (Nat.le_of_ble_eq_true rfl) (fun r w3 hp3 => ?_)
  obtain ⟨rfl, hR3⟩ := hp3
  have e3 := RI_fst hR3
  have hC3 := CI_mv hC2 e3
  rw [← e3] at hR3
  refine r_pc 212 rfl ?_
  exact r_icmp_eq 545 dL_law_212 (by decide) (fun _ => F w3 ⟨s', hC3, hR3⟩) (fun h => absurd rfl h)
theorem w_redo {i : Nat} (hL : L ≤ 1536) (hi : i + 3 ≤ L) (F : ∀ w, Jn w → Rq Zl (Xl b L xs) (mLw nm) 13 59 8824 w0 59 8824 545 [some (.ref 5000), some (.ref 0), some (.ref 100), some (.int (nI i))] [] w) (hJ : Jn w) : Rq Zl (Xl b L xs) (mLw nm) 13 59 8824 w0 59 8824 217 [some (.ref 5000), some (.ref 0), some (.ref 100), some (.int (nI i))] [] w := by
  obtain ⟨s, hC, hR⟩ := hJ
  obtain ⟨a, s', h1, h2⟩ := p_redo s (CI_SI hC)
  obtain ⟨fs, hw1⟩ := CI_wg hC
  refine r_aload_n dL_law_217 rfl ?_
  refine r_cVP dL_law_218 (h1 _ _ hC) lL_35 rfl hw1 rfl (by decide) ⟨Nat.le_refl _, Nat.le_refl _⟩ (Nat.le_of_ble_eq_true rfl) (fun r w2 hp => ?_)
  obtain ⟨rfl, hC2⟩ := hp
  have hR2 := RI_mv hR (CI_snd hC2)
  obtain ⟨fs2, hw2⟩ := RI_wg hR2
  refine r_pc 221 rfl ?_
  refine r_aload_n dL_law_221 rfl ?_
  refine r_cVP dL_law_222 (h2 _ _ hR2) lL_38 rfl hw2 rfl (by decide) ⟨Nat.le_refl _, Nat.le_refl _⟩ (Nat.le_of_ble_eq_true rfl) (fun r w3 hp3 => ?_)
  obtain ⟨rfl, hR3⟩ := hp3
  have e3 := RI_fst hR3
  have hC3 := CI_mv hC2 e3
  rw [← e3] at hR3
  refine r_pc 225 rfl ?_
  exact r_icmp_eq 545 dL_law_225 (by decide) (fun _ => F w3 ⟨s', hC3, hR3⟩) (fun h => absurd rfl h)
theorem w_home {i : Nat} (hL : L ≤ 1536) (hi : i + 3 ≤ L) (F : ∀ w, Jn w → Rq Zl (Xl b L xs) (mLw nm) 13 59 8824 w0 59 8824 545 [some (.ref 5000), some (.ref 0), some (.ref 100), some (.int (nI i))] [] w) (hJ : Jn w) : Rq Zl (Xl b L xs) (mLw nm) 13 59 8824 w0 59 8824 230 [some (.ref 5000), some (.ref 0), some (.ref 100), some (.int (nI i))] [] w := by
  obtain ⟨s, hC, hR⟩ := hJ
  obtain ⟨a, s', h1, h2⟩ := p_home s (CI_SI hC)
  obtain ⟨fs, hw1⟩ := CI_wg hC
  refine r_aload_n dL_law_230 rfl ?_
  refine r_cVP dL_law_231 (h1 _ _ hC) lL_39 rfl hw1 rfl (by decide) ⟨Nat.le_refl _, Nat.le_refl _⟩ (Nat.le_of_ble_eq_true rfl) (fun r w2 hp => ?_)
  obtain ⟨rfl, hC2⟩ := hp
  have hR2 := RI_mv hR (CI_snd hC2)
  obtain ⟨fs2, hw2⟩ := RI_wg hR2
  refine r_pc 234 rfl ?_
  refine r_aload_n dL_law_234 rfl ?_
  refine r_cVP dL_law_235 (h2 _ _ hR2) lL_42 rfl hw2 rfl (by decide) ⟨Nat.le_refl _, Nat.le_refl _⟩ (Nat.le_of_ble_eq_true rfl) (fun r w3 hp3 => ?_)
  obtain ⟨rfl, hR3⟩ := hp3
  have e3 := RI_fst hR3
  have hC3 := CI_mv hC2 e3
  rw [← e3] at hR3
  refine r_pc 238 rfl ?_
  exact r_icmp_eq 545 dL_law_238 (by decide) (fun _ => F w3 ⟨s', hC3, hR3⟩) (fun h => absurd rfl h)
theorem w_at {i : Nat} (hL : L ≤ 1536) (hi : i + 3 ≤ L) (F : ∀ w, Jn w → Rq Zl (Xl b L xs) (mLw nm) 13 59 8824 w0 59 8824 545 [some (.ref 5000), some (.ref 0), some (.ref 100), some (.int (nI i))] [] w) (hJ : Jn w) : Rq Zl (Xl b L xs) (mLw nm) 13 59 8824 w0 59 8824 243 [some (.ref 5000), some (.ref 0), some (.ref 100), some (.int (nI i))] [] w := by
  obtain ⟨s, hC, hR⟩ := hJ
  obtain ⟨a, s', h1, h2⟩ := p_at (xs (i + 1)) (xs (i + 2)) s (CI_SI hC)
  obtain ⟨fs, hw1⟩ := CI_wg hC
  refine r_aload_n dL_law_243 rfl ?_
  refine r_aload_n dL_law_244 rfl ?_
  refine r_iload_n dL_law_245 rfl ?_
  refine r_iconst (v := (nI 1)) dL_law_246 (by decide) ?_
  refine r_iaddN dL_law_247 ?_
  refine r_scri (j := i + 1) dL_law_248 rfl (by omega) (by omega) ?_
  refine r_aload_n dL_law_249 rfl ?_
  refine r_iload_n dL_law_250 rfl ?_
  refine r_iconst (v := (nI 2)) dL_law_251 (by decide) ?_
  refine r_iaddN dL_law_252 ?_
  refine r_scri (j := i + 2) dL_law_253 rfl (by omega) (by omega) ?_
  refine r_cVP dL_law_254 (h1 _ _ hC) lL_43 rfl hw1 rfl (by decide) ⟨Nat.le_refl _, Nat.le_refl _⟩ (Nat.le_of_ble_eq_true rfl) (fun r w2 hp => ?_)
  obtain ⟨rfl, hC2⟩ := hp
  have hR2 := RI_mv hR (CI_snd hC2)
  obtain ⟨fs2, hw2⟩ := RI_wg hR2
  refine r_pc 257 rfl ?_
  refine r_aload_n dL_law_257 rfl ?_
  refine r_aload_n dL_law_258 rfl ?_
  refine r_iload_n dL_law_259 rfl ?_
  refine r_iconst (v := (nI 1)) dL_law_260 (by decide) ?_
  refine r_iaddN dL_law_261 ?_
  refine r_scri (j := i + 1) dL_law_262 rfl (by omega) (by omega) ?_
  refine r_aload_n dL_law_263 rfl ?_
  refine r_iload_n dL_law_264 rfl ?_
  refine r_iconst (v := (nI 2)) dL_law_265 (by decide) ?_
  refine r_iaddN dL_law_266 ?_
  refine r_scri (j := i + 2) dL_law_267 rfl (by omega) (by omega) ?_
  refine r_cVP dL_law_268 (h2 _ _ hR2) lL_47 rfl hw2 rfl (by decide) ⟨Nat.le_refl _, Nat.le_refl _⟩ (Nat.le_of_ble_eq_true rfl) (fun r w3 hp3 => ?_)
  obtain ⟨rfl, hR3⟩ := hp3
  have e3 := RI_fst hR3
  have hC3 := CI_mv hC2 e3
  rw [← e3] at hR3
  refine r_pc 271 rfl ?_
  exact r_icmp_eq 545 dL_law_271 (by decide) (fun _ => F w3 ⟨s', hC3, hR3⟩) (fun h => absurd rfl h)
theorem w_on {i : Nat} (hL : L ≤ 1536) (hi : i + 3 ≤ L) (F : ∀ w, Jn w → Rq Zl (Xl b L xs) (mLw nm) 13 59 8824 w0 59 8824 545 [some (.ref 5000), some (.ref 0), some (.ref 100), some (.int (nI i))] [] w) (hJ : Jn w) : Rq Zl (Xl b L xs) (mLw nm) 13 59 8824 w0 59 8824 276 [some (.ref 5000), some (.ref 0), some (.ref 100), some (.int (nI i))] [] w := by
  obtain ⟨s, hC, hR⟩ := hJ
  obtain ⟨a, s', h1, h2⟩ := p_on (xs (i + 1)) s (CI_SI hC)
  obtain ⟨fs, hw1⟩ := CI_wg hC
  refine r_aload_n dL_law_276 rfl ?_
  refine r_aload_n dL_law_277 rfl ?_
  refine r_iload_n dL_law_278 rfl ?_
  refine r_iconst (v := (nI 1)) dL_law_279 (by decide) ?_
  refine r_iaddN dL_law_280 ?_
  refine r_scri (j := i + 1) dL_law_281 rfl (by omega) (by omega) ?_
  refine r_cVP dL_law_282 (h1 _ _ hC) lL_48 rfl hw1 rfl (by decide) ⟨Nat.le_refl _, Nat.le_refl _⟩ (Nat.le_of_ble_eq_true rfl) (fun r w2 hp => ?_)
  obtain ⟨rfl, hC2⟩ := hp
  have hR2 := RI_mv hR (CI_snd hC2)
  obtain ⟨fs2, hw2⟩ := RI_wg hR2
  refine r_pc 285 rfl ?_
  refine r_aload_n dL_law_285 rfl ?_
  refine r_aload_n dL_law_286 rfl ?_
  refine r_iload_n dL_law_287 rfl ?_
  refine r_iconst (v := (nI 1)) dL_law_288 (by decide) ?_
  refine r_iaddN dL_law_289 ?_
  refine r_scri (j := i + 1) dL_law_290 rfl (by omega) (by omega) ?_
  refine r_cVP dL_law_291 (h2 _ _ hR2) lL_51 rfl hw2 rfl (by decide) ⟨Nat.le_refl _, Nat.le_refl _⟩ (Nat.le_of_ble_eq_true rfl) (fun r w3 hp3 => ?_)
  obtain ⟨rfl, hR3⟩ := hp3
  have e3 := RI_fst hR3
  have hC3 := CI_mv hC2 e3
  rw [← e3] at hR3
  refine r_pc 294 rfl ?_
  exact r_icmp_eq 545 dL_law_294 (by decide) (fun _ => F w3 ⟨s', hC3, hR3⟩) (fun h => absurd rfl h)
theorem w_meant {i : Nat} (hL : L ≤ 1536) (hi : i + 3 ≤ L) (F : ∀ w, Jn w → Rq Zl (Xl b L xs) (mLw nm) 13 59 8824 w0 59 8824 545 [some (.ref 5000), some (.ref 0), some (.ref 100), some (.int (nI i))] [] w) (hJ : Jn w) : Rq Zl (Xl b L xs) (mLw nm) 13 59 8824 w0 59 8824 299 [some (.ref 5000), some (.ref 0), some (.ref 100), some (.int (nI i))] [] w := by
  obtain ⟨s, hC, hR⟩ := hJ
  obtain ⟨a, s', h1, h2⟩ := p_meant (xs (i + 1)) s (CI_SI hC)
  obtain ⟨fs, hw1⟩ := CI_wg hC
  refine r_aload_n dL_law_299 rfl ?_
  refine r_aload_n dL_law_300 rfl ?_
  refine r_iload_n dL_law_301 rfl ?_
  refine r_iconst (v := (nI 1)) dL_law_302 (by decide) ?_
  refine r_iaddN dL_law_303 ?_
  refine r_scri (j := i + 1) dL_law_304 rfl (by omega) (by omega) ?_
  refine r_cVP dL_law_305 (h1 _ _ hC) lL_52 rfl hw1 rfl (by decide) ⟨Nat.le_refl _, Nat.le_refl _⟩ (Nat.le_of_ble_eq_true rfl) (fun r w2 hp => ?_)
  obtain ⟨rfl, hC2⟩ := hp
  have hR2 := RI_mv hR (CI_snd hC2)
  obtain ⟨fs2, hw2⟩ := RI_wg hR2
  refine r_pc 308 rfl ?_
  refine r_aload_n dL_law_308 rfl ?_
  refine r_aload_n dL_law_309 rfl ?_
  refine r_iload_n dL_law_310 rfl ?_
  refine r_iconst (v := (nI 1)) dL_law_311 (by decide) ?_
  refine r_iaddN dL_law_312 ?_
  refine r_scri (j := i + 1) dL_law_313 rfl (by omega) (by omega) ?_
  refine r_cVP dL_law_314 (h2 _ _ hR2) lL_55 rfl hw2 rfl (by decide) ⟨Nat.le_refl _, Nat.le_refl _⟩ (Nat.le_of_ble_eq_true rfl) (fun r w3 hp3 => ?_)
  obtain ⟨rfl, hR3⟩ := hp3
  have e3 := RI_fst hR3
  have hC3 := CI_mv hC2 e3
  rw [← e3] at hR3
  refine r_pc 317 rfl ?_
  exact r_icmp_eq 545 dL_law_317 (by decide) (fun _ => F w3 ⟨s', hC3, hR3⟩) (fun h => absurd rfl h)
theorem w_count {i : Nat} (hL : L ≤ 1536) (hi : i + 3 ≤ L) (F : ∀ w, Jn w → Rq Zl (Xl b L xs) (mLw nm) 13 59 8824 w0 59 8824 545 [some (.ref 5000), some (.ref 0), some (.ref 100), some (.int (nI i))] [] w) (hJ : Jn w) : Rq Zl (Xl b L xs) (mLw nm) 13 59 8824 w0 59 8824 322 [some (.ref 5000), some (.ref 0), some (.ref 100), some (.int (nI i))] [] w := by
  obtain ⟨s, hC, hR⟩ := hJ
  obtain ⟨a, s', h1, h2⟩ := p_count (xs (i + 1)) s (CI_SI hC)
  obtain ⟨fs, hw1⟩ := CI_wg hC
  refine r_aload_n dL_law_322 rfl ?_
  refine r_aload_n dL_law_323 rfl ?_
  refine r_iload_n dL_law_324 rfl ?_
  refine r_iconst (v := (nI 1)) dL_law_325 (by decide) ?_
  refine r_iaddN dL_law_326 ?_
  refine r_scri (j := i + 1) dL_law_327 rfl (by omega) (by omega) ?_
  refine r_cVP dL_law_328 (h1 _ _ hC) lL_56 rfl hw1 rfl (by decide) ⟨Nat.le_refl _, Nat.le_refl _⟩ (Nat.le_of_ble_eq_true rfl) (fun r w2 hp => ?_)
  obtain ⟨rfl, hC2⟩ := hp
  have hR2 := RI_mv hR (CI_snd hC2)
  obtain ⟨fs2, hw2⟩ := RI_wg hR2
  refine r_pc 331 rfl ?_
  refine r_aload_n dL_law_331 rfl ?_
  refine r_aload_n dL_law_332 rfl ?_
  refine r_iload_n dL_law_333 rfl ?_
  refine r_iconst (v := (nI 1)) dL_law_334 (by decide) ?_
  refine r_iaddN dL_law_335 ?_
  refine r_scri (j := i + 1) dL_law_336 rfl (by omega) (by omega) ?_
  refine r_cVP dL_law_337 (h2 _ _ hR2) lL_59 rfl hw2 rfl (by decide) ⟨Nat.le_refl _, Nat.le_refl _⟩ (Nat.le_of_ble_eq_true rfl) (fun r w3 hp3 => ?_)
  obtain ⟨rfl, hR3⟩ := hp3
  have e3 := RI_fst hR3
  have hC3 := CI_mv hC2 e3
  rw [← e3] at hR3
  refine r_pc 340 rfl ?_
  exact r_icmp_eq 545 dL_law_340 (by decide) (fun _ => F w3 ⟨s', hC3, hR3⟩) (fun h => absurd rfl h)
theorem w_way {i : Nat} (hL : L ≤ 1536) (hi : i + 3 ≤ L) (F : ∀ w, Jn w → Rq Zl (Xl b L xs) (mLw nm) 13 59 8824 w0 59 8824 545 [some (.ref 5000), some (.ref 0), some (.ref 100), some (.int (nI i))] [] w) (hJ : Jn w) : Rq Zl (Xl b L xs) (mLw nm) 13 59 8824 w0 59 8824 345 [some (.ref 5000), some (.ref 0), some (.ref 100), some (.int (nI i))] [] w := by
  obtain ⟨s, hC, hR⟩ := hJ
  obtain ⟨a, s', h1, h2⟩ := p_way (xs (i + 1)) s (CI_SI hC)
  obtain ⟨fs, hw1⟩ := CI_wg hC
  refine r_aload_n dL_law_345 rfl ?_
  refine r_aload_n dL_law_346 rfl ?_
  refine r_iload_n dL_law_347 rfl ?_
  refine r_iconst (v := (nI 1)) dL_law_348 (by decide) ?_
  refine r_iaddN dL_law_349 ?_
  refine r_scri (j := i + 1) dL_law_350 rfl (by omega) (by omega) ?_
  refine r_cVP dL_law_351 (h1 _ _ hC) lL_60 rfl hw1 rfl (by decide) ⟨Nat.le_refl _, Nat.le_refl _⟩ (Nat.le_of_ble_eq_true rfl) (fun r w2 hp => ?_)
  obtain ⟨rfl, hC2⟩ := hp
  have hR2 := RI_mv hR (CI_snd hC2)
  obtain ⟨fs2, hw2⟩ := RI_wg hR2
  refine r_pc 354 rfl ?_
  refine r_aload_n dL_law_354 rfl ?_
  refine r_aload_n dL_law_355 rfl ?_
  refine r_iload_n dL_law_356 rfl ?_
  refine r_iconst (v := (nI 1)) dL_law_357 (by decide) ?_
  refine r_iaddN dL_law_358 ?_
  refine r_scri (j := i + 1) dL_law_359 rfl (by omega) (by omega) ?_
  refine r_cVP dL_law_360 (h2 _ _ hR2) lL_63 rfl hw2 rfl (by decide) ⟨Nat.le_refl _, Nat.le_refl _⟩ (Nat.le_of_ble_eq_true rfl) (fun r w3 hp3 => ?_)
  obtain ⟨rfl, hR3⟩ := hp3
  have e3 := RI_fst hR3
  have hC3 := CI_mv hC2 e3
  rw [← e3] at hR3
  refine r_pc 363 rfl ?_
  exact r_icmp_eq 545 dL_law_363 (by decide) (fun _ => F w3 ⟨s', hC3, hR3⟩) (fun h => absurd rfl h)
theorem w_round {i : Nat} (hL : L ≤ 1536) (hi : i + 3 ≤ L) (F : ∀ w, Jn w → Rq Zl (Xl b L xs) (mLw nm) 13 59 8824 w0 59 8824 545 [some (.ref 5000), some (.ref 0), some (.ref 100), some (.int (nI i))] [] w) (hJ : Jn w) : Rq Zl (Xl b L xs) (mLw nm) 13 59 8824 w0 59 8824 368 [some (.ref 5000), some (.ref 0), some (.ref 100), some (.int (nI i))] [] w := by
  obtain ⟨s, hC, hR⟩ := hJ
  obtain ⟨a, s', h1, h2⟩ := p_round s (CI_SI hC)
  obtain ⟨fs, hw1⟩ := CI_wg hC
  refine r_aload_n dL_law_368 rfl ?_
  refine r_cVP dL_law_369 (h1 _ _ hC) lL_64 rfl hw1 rfl (by decide) ⟨Nat.le_refl _, Nat.le_refl _⟩ (Nat.le_of_ble_eq_true rfl) (fun r w2 hp => ?_)
  obtain ⟨rfl, hC2⟩ := hp
  have hR2 := RI_mv hR (CI_snd hC2)
  obtain ⟨fs2, hw2⟩ := RI_wg hR2
  refine r_pc 372 rfl ?_
  refine r_aload_n dL_law_372 rfl ?_
  refine r_cVP dL_law_373 (h2 _ _ hR2) lL_67 rfl hw2 rfl (by decide) ⟨Nat.le_refl _, Nat.le_refl _⟩ (Nat.le_of_ble_eq_true rfl) (fun r w3 hp3 => ?_)
  obtain ⟨rfl, hR3⟩ := hp3
  have e3 := RI_fst hR3
  have hC3 := CI_mv hC2 e3
  rw [← e3] at hR3
  refine r_pc 376 rfl ?_
  exact r_icmp_eq 545 dL_law_376 (by decide) (fun _ => F w3 ⟨s', hC3, hR3⟩) (fun h => absurd rfl h)
theorem w_alike {i : Nat} (hL : L ≤ 1536) (hi : i + 3 ≤ L) (F : ∀ w, Jn w → Rq Zl (Xl b L xs) (mLw nm) 13 59 8824 w0 59 8824 545 [some (.ref 5000), some (.ref 0), some (.ref 100), some (.int (nI i))] [] w) (hJ : Jn w) : Rq Zl (Xl b L xs) (mLw nm) 13 59 8824 w0 59 8824 381 [some (.ref 5000), some (.ref 0), some (.ref 100), some (.int (nI i))] [] w := by
  obtain ⟨s, hC, hR⟩ := hJ
  obtain ⟨a, s', h1, h2⟩ := p_alike (xs (i + 1)) s (CI_SI hC)
  obtain ⟨fs, hw1⟩ := CI_wg hC
  refine r_aload_n dL_law_381 rfl ?_
  refine r_aload_n dL_law_382 rfl ?_
  refine r_iload_n dL_law_383 rfl ?_
  refine r_iconst (v := (nI 1)) dL_law_384 (by decide) ?_
  refine r_iaddN dL_law_385 ?_
  refine r_scri (j := i + 1) dL_law_386 rfl (by omega) (by omega) ?_
  refine r_cVP dL_law_387 (h1 _ _ hC) lL_68 rfl hw1 rfl (by decide) ⟨Nat.le_refl _, Nat.le_refl _⟩ (Nat.le_of_ble_eq_true rfl) (fun r w2 hp => ?_)
  obtain ⟨rfl, hC2⟩ := hp
  have hR2 := RI_mv hR (CI_snd hC2)
  obtain ⟨fs2, hw2⟩ := RI_wg hR2
  refine r_pc 390 rfl ?_
  refine r_aload_n dL_law_390 rfl ?_
  refine r_aload_n dL_law_391 rfl ?_
  refine r_iload_n dL_law_392 rfl ?_
  refine r_iconst (v := (nI 1)) dL_law_393 (by decide) ?_
  refine r_iaddN dL_law_394 ?_
  refine r_scri (j := i + 1) dL_law_395 rfl (by omega) (by omega) ?_
  refine r_cVP dL_law_396 (h2 _ _ hR2) lL_71 rfl hw2 rfl (by decide) ⟨Nat.le_refl _, Nat.le_refl _⟩ (Nat.le_of_ble_eq_true rfl) (fun r w3 hp3 => ?_)
  obtain ⟨rfl, hR3⟩ := hp3
  have e3 := RI_fst hR3
  have hC3 := CI_mv hC2 e3
  rw [← e3] at hR3
  refine r_pc 399 rfl ?_
  exact r_icmp_eq 545 dL_law_399 (by decide) (fun _ => F w3 ⟨s', hC3, hR3⟩) (fun h => absurd rfl h)
theorem w_squares {i : Nat} (hL : L ≤ 1536) (hi : i + 3 ≤ L) (F : ∀ w, Jn w → Rq Zl (Xl b L xs) (mLw nm) 13 59 8824 w0 59 8824 545 [some (.ref 5000), some (.ref 0), some (.ref 100), some (.int (nI i))] [] w) (hJ : Jn w) : Rq Zl (Xl b L xs) (mLw nm) 13 59 8824 w0 59 8824 404 [some (.ref 5000), some (.ref 0), some (.ref 100), some (.int (nI i))] [] w := by
  obtain ⟨s, hC, hR⟩ := hJ
  obtain ⟨a, s', h1, h2⟩ := p_squares (xs (i + 1)) s (CI_SI hC)
  obtain ⟨fs, hw1⟩ := CI_wg hC
  refine r_aload_n dL_law_404 rfl ?_
  refine r_aload_n dL_law_405 rfl ?_
  refine r_iload_n dL_law_406 rfl ?_
  refine r_iconst (v := (nI 1)) dL_law_407 (by decide) ?_
  refine r_iaddN dL_law_408 ?_
  refine r_scri (j := i + 1) dL_law_409 rfl (by omega) (by omega) ?_
  refine r_cVP dL_law_410 (h1 _ _ hC) lL_72 rfl hw1 rfl (by decide) ⟨Nat.le_refl _, Nat.le_refl _⟩ (Nat.le_of_ble_eq_true rfl) (fun r w2 hp => ?_)
  obtain ⟨rfl, hC2⟩ := hp
  have hR2 := RI_mv hR (CI_snd hC2)
  obtain ⟨fs2, hw2⟩ := RI_wg hR2
  refine r_pc 413 rfl ?_
  refine r_aload_n dL_law_413 rfl ?_
  refine r_aload_n dL_law_414 rfl ?_
  refine r_iload_n dL_law_415 rfl ?_
  refine r_iconst (v := (nI 1)) dL_law_416 (by decide) ?_
  refine r_iaddN dL_law_417 ?_
  refine r_scri (j := i + 1) dL_law_418 rfl (by omega) (by omega) ?_
  refine r_cVP dL_law_419 (h2 _ _ hR2) lL_75 rfl hw2 rfl (by decide) ⟨Nat.le_refl _, Nat.le_refl _⟩ (Nat.le_of_ble_eq_true rfl) (fun r w3 hp3 => ?_)
  obtain ⟨rfl, hR3⟩ := hp3
  have e3 := RI_fst hR3
  have hC3 := CI_mv hC2 e3
  rw [← e3] at hR3
  refine r_pc 422 rfl ?_
  exact r_icmp_eq 545 dL_law_422 (by decide) (fun _ => F w3 ⟨s', hC3, hR3⟩) (fun h => absurd rfl h)
theorem w_text {i : Nat} (hL : L ≤ 1536) (hi : i + 3 ≤ L) (F : ∀ w, Jn w → Rq Zl (Xl b L xs) (mLw nm) 13 59 8824 w0 59 8824 545 [some (.ref 5000), some (.ref 0), some (.ref 100), some (.int (nI i))] [] w) (hJ : Jn w) : Rq Zl (Xl b L xs) (mLw nm) 13 59 8824 w0 59 8824 427 [some (.ref 5000), some (.ref 0), some (.ref 100), some (.int (nI i))] [] w := by
  obtain ⟨s, hC, hR⟩ := hJ
  obtain ⟨a, s', h1, h2⟩ := p_text (xs (i + 1)) s (CI_SI hC)
  obtain ⟨fs, hw1⟩ := CI_wg hC
  refine r_aload_n dL_law_427 rfl ?_
  refine r_aload_n dL_law_428 rfl ?_
  refine r_iload_n dL_law_429 rfl ?_
  refine r_iconst (v := (nI 1)) dL_law_430 (by decide) ?_
  refine r_iaddN dL_law_431 ?_
  refine r_scri (j := i + 1) dL_law_432 rfl (by omega) (by omega) ?_
  refine r_cVP dL_law_433 (h1 _ _ hC) lL_76 rfl hw1 rfl (by decide) ⟨Nat.le_refl _, Nat.le_refl _⟩ (Nat.le_of_ble_eq_true rfl) (fun r w2 hp => ?_)
  obtain ⟨rfl, hC2⟩ := hp
  have hR2 := RI_mv hR (CI_snd hC2)
  obtain ⟨fs2, hw2⟩ := RI_wg hR2
  refine r_pc 436 rfl ?_
  refine r_aload_n dL_law_436 rfl ?_
  refine r_aload_n dL_law_437 rfl ?_
  refine r_iload_n dL_law_438 rfl ?_
  refine r_iconst (v := (nI 1)) dL_law_439 (by decide) ?_
  refine r_iaddN dL_law_440 ?_
  refine r_scri (j := i + 1) dL_law_441 rfl (by omega) (by omega) ?_
  refine r_cVP dL_law_442 (h2 _ _ hR2) lL_79 rfl hw2 rfl (by decide) ⟨Nat.le_refl _, Nat.le_refl _⟩ (Nat.le_of_ble_eq_true rfl) (fun r w3 hp3 => ?_)
  obtain ⟨rfl, hR3⟩ := hp3
  have e3 := RI_fst hR3
  have hC3 := CI_mv hC2 e3
  rw [← e3] at hR3
  refine r_pc 445 rfl ?_
  exact r_icmp_eq 545 dL_law_445 (by decide) (fun _ => F w3 ⟨s', hC3, hR3⟩) (fun h => absurd rfl h)
theorem w_picture {i : Nat} (hL : L ≤ 1536) (hi : i + 3 ≤ L) (F : ∀ w, Jn w → Rq Zl (Xl b L xs) (mLw nm) 13 59 8824 w0 59 8824 545 [some (.ref 5000), some (.ref 0), some (.ref 100), some (.int (nI i))] [] w) (hJ : Jn w) : Rq Zl (Xl b L xs) (mLw nm) 13 59 8824 w0 59 8824 450 [some (.ref 5000), some (.ref 0), some (.ref 100), some (.int (nI i))] [] w := by
  obtain ⟨s, hC, hR⟩ := hJ
  obtain ⟨a, s', h1, h2⟩ := p_picture (xs (i + 1)) s (CI_SI hC)
  obtain ⟨fs, hw1⟩ := CI_wg hC
  refine r_aload_n dL_law_450 rfl ?_
  refine r_aload_n dL_law_451 rfl ?_
  refine r_iload_n dL_law_452 rfl ?_
  refine r_iconst (v := (nI 1)) dL_law_453 (by decide) ?_
  refine r_iaddN dL_law_454 ?_
  refine r_scri (j := i + 1) dL_law_455 rfl (by omega) (by omega) ?_
  refine r_cVP dL_law_456 (h1 _ _ hC) lL_80 rfl hw1 rfl (by decide) ⟨Nat.le_refl _, Nat.le_refl _⟩ (Nat.le_of_ble_eq_true rfl) (fun r w2 hp => ?_)
  obtain ⟨rfl, hC2⟩ := hp
  have hR2 := RI_mv hR (CI_snd hC2)
  obtain ⟨fs2, hw2⟩ := RI_wg hR2
  refine r_pc 459 rfl ?_
  refine r_aload_n dL_law_459 rfl ?_
  refine r_aload_n dL_law_460 rfl ?_
  refine r_iload_n dL_law_461 rfl ?_
  refine r_iconst (v := (nI 1)) dL_law_462 (by decide) ?_
  refine r_iaddN dL_law_463 ?_
  refine r_scri (j := i + 1) dL_law_464 rfl (by omega) (by omega) ?_
  refine r_cVP dL_law_465 (h2 _ _ hR2) lL_83 rfl hw2 rfl (by decide) ⟨Nat.le_refl _, Nat.le_refl _⟩ (Nat.le_of_ble_eq_true rfl) (fun r w3 hp3 => ?_)
  obtain ⟨rfl, hR3⟩ := hp3
  have e3 := RI_fst hR3
  have hC3 := CI_mv hC2 e3
  rw [← e3] at hR3
  refine r_pc 468 rfl ?_
  exact r_icmp_eq 545 dL_law_468 (by decide) (fun _ => F w3 ⟨s', hC3, hR3⟩) (fun h => absurd rfl h)
theorem w_call {i : Nat} (hL : L ≤ 1536) (hi : i + 3 ≤ L) (F : ∀ w, Jn w → Rq Zl (Xl b L xs) (mLw nm) 13 59 8824 w0 59 8824 545 [some (.ref 5000), some (.ref 0), some (.ref 100), some (.int (nI i))] [] w) (hJ : Jn w) : Rq Zl (Xl b L xs) (mLw nm) 13 59 8824 w0 59 8824 473 [some (.ref 5000), some (.ref 0), some (.ref 100), some (.int (nI i))] [] w := by
  obtain ⟨s, hC, hR⟩ := hJ
  obtain ⟨a, s', h1, h2⟩ := p_call (xs (i + 1)) s (CI_SI hC)
  obtain ⟨fs, hw1⟩ := CI_wg hC
  refine r_aload_n dL_law_473 rfl ?_
  refine r_aload_n dL_law_474 rfl ?_
  refine r_iload_n dL_law_475 rfl ?_
  refine r_iconst (v := (nI 1)) dL_law_476 (by decide) ?_
  refine r_iaddN dL_law_477 ?_
  refine r_scri (j := i + 1) dL_law_478 rfl (by omega) (by omega) ?_
  refine r_cVP dL_law_479 (h1 _ _ hC) lL_84 rfl hw1 rfl (by decide) ⟨Nat.le_refl _, Nat.le_refl _⟩ (Nat.le_of_ble_eq_true rfl) (fun r w2 hp => ?_)
  obtain ⟨rfl, hC2⟩ := hp
  have hR2 := RI_mv hR (CI_snd hC2)
  obtain ⟨fs2, hw2⟩ := RI_wg hR2
  refine r_pc 482 rfl ?_
  refine r_aload_n dL_law_482 rfl ?_
  refine r_aload_n dL_law_483 rfl ?_
  refine r_iload_n dL_law_484 rfl ?_
  refine r_iconst (v := (nI 1)) dL_law_485 (by decide) ?_
  refine r_iaddN dL_law_486 ?_
  refine r_scri (j := i + 1) dL_law_487 rfl (by omega) (by omega) ?_
  refine r_cVP dL_law_488 (h2 _ _ hR2) lL_87 rfl hw2 rfl (by decide) ⟨Nat.le_refl _, Nat.le_refl _⟩ (Nat.le_of_ble_eq_true rfl) (fun r w3 hp3 => ?_)
  obtain ⟨rfl, hR3⟩ := hp3
  have e3 := RI_fst hR3
  have hC3 := CI_mv hC2 e3
  rw [← e3] at hR3
  refine r_pc 491 rfl ?_
  exact r_icmp_eq 545 dL_law_491 (by decide) (fun _ => F w3 ⟨s', hC3, hR3⟩) (fun h => absurd rfl h)
theorem w_danced {i : Nat} (hL : L ≤ 1536) (hi : i + 3 ≤ L) (F : ∀ w, Jn w → Rq Zl (Xl b L xs) (mLw nm) 13 59 8824 w0 59 8824 545 [some (.ref 5000), some (.ref 0), some (.ref 100), some (.int (nI i))] [] w) (hJ : Jn w) : Rq Zl (Xl b L xs) (mLw nm) 13 59 8824 w0 59 8824 496 [some (.ref 5000), some (.ref 0), some (.ref 100), some (.int (nI i))] [] w := by
  obtain ⟨s, hC, hR⟩ := hJ
  obtain ⟨a, s', h1, h2⟩ := p_danced (xs (i + 1)) s (CI_SI hC)
  obtain ⟨fs, hw1⟩ := CI_wg hC
  refine r_aload_n dL_law_496 rfl ?_
  refine r_aload_n dL_law_497 rfl ?_
  refine r_iload_n dL_law_498 rfl ?_
  refine r_iconst (v := (nI 1)) dL_law_499 (by decide) ?_
  refine r_iaddN dL_law_500 ?_
  refine r_scri (j := i + 1) dL_law_501 rfl (by omega) (by omega) ?_
  refine r_cVP dL_law_502 (h1 _ _ hC) lL_88 rfl hw1 rfl (by decide) ⟨Nat.le_refl _, Nat.le_refl _⟩ (Nat.le_of_ble_eq_true rfl) (fun r w2 hp => ?_)
  obtain ⟨rfl, hC2⟩ := hp
  have hR2 := RI_mv hR (CI_snd hC2)
  obtain ⟨fs2, hw2⟩ := RI_wg hR2
  refine r_pc 505 rfl ?_
  refine r_aload_n dL_law_505 rfl ?_
  refine r_aload_n dL_law_506 rfl ?_
  refine r_iload_n dL_law_507 rfl ?_
  refine r_iconst (v := (nI 1)) dL_law_508 (by decide) ?_
  refine r_iaddN dL_law_509 ?_
  refine r_scri (j := i + 1) dL_law_510 rfl (by omega) (by omega) ?_
  refine r_cVP dL_law_511 (h2 _ _ hR2) lL_91 rfl hw2 rfl (by decide) ⟨Nat.le_refl _, Nat.le_refl _⟩ (Nat.le_of_ble_eq_true rfl) (fun r w3 hp3 => ?_)
  obtain ⟨rfl, hR3⟩ := hp3
  have e3 := RI_fst hR3
  have hC3 := CI_mv hC2 e3
  rw [← e3] at hR3
  refine r_pc 514 rfl ?_
  exact r_icmp_eq 545 dL_law_514 (by decide) (fun _ => F w3 ⟨s', hC3, hR3⟩) (fun h => absurd rfl h)
theorem w_image {i : Nat} (hL : L ≤ 1536) (hi : i + 3 ≤ L) (F : ∀ w, Jn w → Rq Zl (Xl b L xs) (mLw nm) 13 59 8824 w0 59 8824 545 [some (.ref 5000), some (.ref 0), some (.ref 100), some (.int (nI i))] [] w) (hJ : Jn w) : Rq Zl (Xl b L xs) (mLw nm) 13 59 8824 w0 59 8824 519 [some (.ref 5000), some (.ref 0), some (.ref 100), some (.int (nI i))] [] w := by
  obtain ⟨s, hC, hR⟩ := hJ
  obtain ⟨a, s', h1, h2⟩ := p_image s (CI_SI hC)
  obtain ⟨fs, hw1⟩ := CI_wg hC
  refine r_aload_n dL_law_519 rfl ?_
  refine r_cVP dL_law_520 (h1 _ _ hC) lL_92 rfl hw1 rfl (by decide) ⟨Nat.le_refl _, Nat.le_refl _⟩ (Nat.le_of_ble_eq_true rfl) (fun r w2 hp => ?_)
  obtain ⟨rfl, hC2⟩ := hp
  have hR2 := RI_mv hR (CI_snd hC2)
  obtain ⟨fs2, hw2⟩ := RI_wg hR2
  refine r_pc 523 rfl ?_
  refine r_aload_n dL_law_523 rfl ?_
  refine r_cVP dL_law_524 (h2 _ _ hR2) lL_95 rfl hw2 rfl (by decide) ⟨Nat.le_refl _, Nat.le_refl _⟩ (Nat.le_of_ble_eq_true rfl) (fun r w3 hp3 => ?_)
  obtain ⟨rfl, hR3⟩ := hp3
  have e3 := RI_fst hR3
  have hC3 := CI_mv hC2 e3
  rw [← e3] at hR3
  refine r_pc 527 rfl ?_
  exact r_icmp_eq 545 dL_law_527 (by decide) (fun _ => F w3 ⟨s', hC3, hR3⟩) (fun h => absurd rfl h)
theorem w_back {i : Nat} (hL : L ≤ 1536) (hi : i + 3 ≤ L) (F : ∀ w, Jn w → Rq Zl (Xl b L xs) (mLw nm) 13 59 8824 w0 59 8824 545 [some (.ref 5000), some (.ref 0), some (.ref 100), some (.int (nI i))] [] w) (hJ : Jn w) : Rq Zl (Xl b L xs) (mLw nm) 13 59 8824 w0 59 8824 532 [some (.ref 5000), some (.ref 0), some (.ref 100), some (.int (nI i))] [] w := by
  obtain ⟨s, hC, hR⟩ := hJ
  obtain ⟨a, s', h1, h2⟩ := p_back s (CI_SI hC)
  obtain ⟨fs, hw1⟩ := CI_wg hC
  refine r_aload_n dL_law_532 rfl ?_
  refine r_cVP dL_law_533 (h1 _ _ hC) lL_96 rfl hw1 rfl (by decide) ⟨Nat.le_refl _, Nat.le_refl _⟩ (Nat.le_of_ble_eq_true rfl) (fun r w2 hp => ?_)
  obtain ⟨rfl, hC2⟩ := hp
  have hR2 := RI_mv hR (CI_snd hC2)
  obtain ⟨fs2, hw2⟩ := RI_wg hR2
  refine r_pc 536 rfl ?_
  refine r_aload_n dL_law_536 rfl ?_
  refine r_cVP dL_law_537 (h2 _ _ hR2) lL_99 rfl hw2 rfl (by decide) ⟨Nat.le_refl _, Nat.le_refl _⟩ (Nat.le_of_ble_eq_true rfl) (fun r w3 hp3 => ?_)
  obtain ⟨rfl, hR3⟩ := hp3
  have e3 := RI_fst hR3
  have hC3 := CI_mv hC2 e3
  rw [← e3] at hR3
  refine r_pc 540 rfl ?_
  exact r_icmp_eq 545 dL_law_540 (by decide) (fun _ => F w3 ⟨s', hC3, hR3⟩) (fun h => absurd rfl h)
theorem law_loop (hL : L ≤ 1536) : ∀ (x i : Nat) (w : WD), L + 1 ≤ i + x → i ≤ L + 3 → Jn w → Rq Zl (Xl b L xs) (mLw nm) 13 59 8824 w0 59 8824 18 [some (.ref 5000), some (.ref 0), some (.ref 100), some (.int (nI i))] [] w := by
  intro x
  have hcmp : ∀ i, i ≤ L + 3 → (nI L - nI 3 < nI i ↔ L < i + 3) := by
    intro i hi
    rw [Int32.lt_iff_toInt_lt, pk_sub_toInt (by omega) (by decide), nI_toInt (by omega)]
    omega
  induction x with
  | zero =>
    intro i w hx hi hJ
    refine r_iload_n dL_law_18 rfl ?_
    refine r_aload_n dL_law_19 rfl ?_
    refine r_scrl dL_law_20 ?_
    refine r_iconst (v := (nI 3)) dL_law_21 (by decide) ?_
    refine r_isub dL_law_22 ?_
    refine r_pc 23 rfl ?_
    refine r_icmp_gt 551 dL_law_23 (by decide) (fun _ => ?_) (fun h => absurd ((hcmp i hi).mpr (by omega)) h)
    refine r_iconst (v := (nI 1)) dL_law_551 (by decide) ?_
    exact r_lend dL_law_552
  | succ x ih =>
    intro i w hx hi3 hJ
    refine r_iload_n dL_law_18 rfl ?_
    refine r_aload_n dL_law_19 rfl ?_
    refine r_scrl dL_law_20 ?_
    refine r_iconst (v := (nI 3)) dL_law_21 (by decide) ?_
    refine r_isub dL_law_22 ?_
    refine r_pc 23 rfl ?_
    refine r_icmp_gt 551 dL_law_23 (by decide) (fun _ => ?_) (fun h => ?_)
    · refine r_iconst (v := (nI 1)) dL_law_551 (by decide) ?_
      exact r_lend dL_law_552
    · have hi : i + 3 ≤ L := Nat.le_of_not_lt (fun z => h ((hcmp i hi3).mpr z))
      have F : ∀ w, Jn w → Rq Zl (Xl b L xs) (mLw nm) 13 59 8824 w0 59 8824 545 [some (.ref 5000), some (.ref 0), some (.ref 100), some (.int (nI i))] [] w := by
        intro w hJ
        refine r_iinc (ls' := [_, _, _, _]) dL_law_545 (show 3 < 4 by decide) rfl (show nI i + Int32.ofInt 3 = nI (i + 3) from nI_add i 3) rfl ?_
        refine r_goto 18 dL_law_548 (by decide) ?_
        exact ih (i + 3) w (by omega) (by omega) hJ
      refine r_aload_n dL_law_26 rfl ?_
      refine r_iload_n dL_law_27 rfl ?_
      refine r_scri (j := i) dL_law_28 rfl (by omega) (by omega) ?_
      refine r_bipush (v := (nI 31)) dL_law_29 (by decide) ?_
      refine r_iand dL_law_31 ?_
      refine r_topi _ (pk_and (xs i) 5 (by decide)) ?_
      refine r_pc 32 rfl ?_
      have hc : (xs i).toBitVec.toNat % 2 ^ 5 < 32 := Nat.mod_lt _ (by decide)
      generalize (xs i).toBitVec.toNat % 2 ^ 5 = c at hc ⊢
      match c, hc with
      | 0, _ =>
        refine r_tabIn 132 dL_law_32 (by decide) (by decide) rfl (by decide) ?_
        exact w_feed hL hi F hJ
      | 1, _ =>
        refine r_tabIn 155 dL_law_32 (by decide) (by decide) rfl (by decide) ?_
        exact w_dance hL hi F hJ
      | 2, _ =>
        refine r_tabIn 168 dL_law_32 (by decide) (by decide) rfl (by decide) ?_
        exact w_fall hL hi F hJ
      | 3, _ =>
        refine r_tabIn 191 dL_law_32 (by decide) (by decide) rfl (by decide) ?_
        exact w_would hL hi F hJ
      | 4, _ =>
        refine r_tabIn 204 dL_law_32 (by decide) (by decide) rfl (by decide) ?_
        exact w_undo hL hi F hJ
      | 5, _ =>
        refine r_tabIn 217 dL_law_32 (by decide) (by decide) rfl (by decide) ?_
        exact w_redo hL hi F hJ
      | 6, _ =>
        refine r_tabIn 230 dL_law_32 (by decide) (by decide) rfl (by decide) ?_
        exact w_home hL hi F hJ
      | 7, _ =>
        refine r_tabIn 243 dL_law_32 (by decide) (by decide) rfl (by decide) ?_
        exact w_at hL hi F hJ
      | 8, _ =>
        refine r_tabIn 276 dL_law_32 (by decide) (by decide) rfl (by decide) ?_
        exact w_on hL hi F hJ
      | 9, _ =>
        refine r_tabIn 299 dL_law_32 (by decide) (by decide) rfl (by decide) ?_
        exact w_meant hL hi F hJ
      | 10, _ =>
        refine r_tabIn 322 dL_law_32 (by decide) (by decide) rfl (by decide) ?_
        exact w_count hL hi F hJ
      | 11, _ =>
        refine r_tabIn 345 dL_law_32 (by decide) (by decide) rfl (by decide) ?_
        exact w_way hL hi F hJ
      | 12, _ =>
        refine r_tabIn 368 dL_law_32 (by decide) (by decide) rfl (by decide) ?_
        exact w_round hL hi F hJ
      | 13, _ =>
        refine r_tabIn 381 dL_law_32 (by decide) (by decide) rfl (by decide) ?_
        exact w_alike hL hi F hJ
      | 14, _ =>
        refine r_tabIn 404 dL_law_32 (by decide) (by decide) rfl (by decide) ?_
        exact w_squares hL hi F hJ
      | 15, _ =>
        refine r_tabIn 427 dL_law_32 (by decide) (by decide) rfl (by decide) ?_
        exact w_text hL hi F hJ
      | 16, _ =>
        refine r_tabIn 450 dL_law_32 (by decide) (by decide) rfl (by decide) ?_
        exact w_picture hL hi F hJ
      | 17, _ =>
        refine r_tabIn 473 dL_law_32 (by decide) (by decide) rfl (by decide) ?_
        exact w_call hL hi F hJ
      | 18, _ =>
        refine r_tabIn 496 dL_law_32 (by decide) (by decide) rfl (by decide) ?_
        exact w_danced hL hi F hJ
      | 19, _ =>
        refine r_tabIn 519 dL_law_32 (by decide) (by decide) rfl (by decide) ?_
        exact w_image hL hi F hJ
      | 20, _ =>
        refine r_tabIn 532 dL_law_32 (by decide) (by decide) rfl (by decide) ?_
        exact w_back hL hi F hJ
      | 21, _ =>
        refine r_tabOut 545 dL_law_32 (by decide) (by decide) ?_
        exact F w hJ
      | 22, _ =>
        refine r_tabOut 545 dL_law_32 (by decide) (by decide) ?_
        exact F w hJ
      | 23, _ =>
        refine r_tabOut 545 dL_law_32 (by decide) (by decide) ?_
        exact F w hJ
      | 24, _ =>
        refine r_tabOut 545 dL_law_32 (by decide) (by decide) ?_
        exact F w hJ
      | 25, _ =>
        refine r_tabOut 545 dL_law_32 (by decide) (by decide) ?_
        exact F w hJ
      | 26, _ =>
        refine r_tabOut 545 dL_law_32 (by decide) (by decide) ?_
        exact F w hJ
      | 27, _ =>
        refine r_tabOut 545 dL_law_32 (by decide) (by decide) ?_
        exact F w hJ
      | 28, _ =>
        refine r_tabOut 545 dL_law_32 (by decide) (by decide) ?_
        exact F w hJ
      | 29, _ =>
        refine r_tabOut 545 dL_law_32 (by decide) (by decide) ?_
        exact F w hJ
      | 30, _ =>
        refine r_tabOut 545 dL_law_32 (by decide) (by decide) ?_
        exact F w hJ
      | 31, _ =>
        refine r_tabOut 545 dL_law_32 (by decide) (by decide) ?_
        exact F w hJ
      | n + 32, h => exact absurd h (by omega)
end LW
