/-! ===== the reference: the way home ===== -/
def PsR (res : Nat × List Nat) (rO rB : Nat → Int32) (r : Option Value) : Prop := (res = (0, []) ∧ r = some (.int (nI 0))) ∨ (∃ (l : BL) (k c : Nat), res = (0, pthL l 250 k ++ [c]) ∧ Bs l ∧ k < l.length ∧ (∀ (j : Nat) (x : Int64 × Nat × Nat), 0 < j → l[j]? = some x → rO j = nI x.2.1 ∧ rB j = nI x.2.2) ∧ rO l.length = nI k ∧ rB l.length = nI c ∧ r = some (.int (nI l.length))) ∨ (res = (1, []) ∧ r = some (.int (-7))) ∨ (res = (2, []) ∧ r = some (.int (-5)))
def PsW (R : List AE) (W : (Nat → Int32) → (Nat → Int32) → (Nat → Int32) → (Nat → Int32) → (Nat → Int32) → (Nat → Int32) → (Nat → Int32) → Int32 → Int32 → (Nat → Int32) → (Nat → Int64) → (Nat → Int32) → (Nat → Int32) → List AE) (res : Nat × List Nat) (r : Option Value) (w' : WD) : Prop := ∃ (rc rf ro rt ru rm rg : Nat → Int32) (rp rq : Int32) (ry : Nat → Int32) (rC : Nat → Int64) (rO rB : Nat → Int32), w' = (R, W rc rf ro rt ru rm rg rp rq ry rC rO rB) ∧ PsR res rO rB r
def BwR (rC : Nat → Int64) (rO rB : Nat → Int32) (l : BL) : Prop := (∀ (j : Nat) (x : Int64 × Nat × Nat), l[j]? = some x → rC j = bt x.1) ∧ ∀ (j : Nat) (x : Int64 × Nat × Nat), 0 < j → l[j]? = some x → rO j = nI x.2.1 ∧ rB j = nI x.2.2
theorem psh_at {l : BL} {y : Int64 × Nat × Nat} {P : Nat → Int64 × Nat × Nat → Prop} (h : ∀ (j : Nat) (x : Int64 × Nat × Nat), l[j]? = some x → P j x) (hy : P l.length y) : ∀ (j : Nat) (x : Int64 × Nat × Nat), (l ++ [y])[j]? = some x → P j x := by
  intro j x hx
  by_cases hj : j < l.length
  · rw [List.getElem?_append_left hj] at hx
    exact h j x hx
  · rw [List.getElem?_append_right (by omega)] at hx
    have h0 : j - l.length = 0 := by
      cases hz : j - l.length with
      | zero => rfl
      | succ z => rw [hz] at hx; simp at hx
    rw [h0] at hx
    simp at hx
    subst hx
    have : j = l.length := by omega
    subst this
    exact hy
theorem BwR_push {rC : Nat → Int64} {rO rB : Nat → Int32} {l : BL} {q : Int64} {k c : Nat} (h : BwR rC rO rB l) : BwR (vp_updL rC l.length (bt q)) (upd rO l.length (nI k)) (upd rB l.length (nI c)) (l ++ [(q, k, c)]) := by
  constructor
  · refine psh_at (P := fun j x => vp_updL rC l.length (bt q) j = bt x.1) (fun j x hx => ?_) pk_uLs
    have := (List.getElem?_eq_some_iff.mp hx).1
    rw [pk_uLn (by omega)]
    exact h.1 j x hx
  · intro j x hj hx
    refine psh_at (P := fun j x => 0 < j → upd rO l.length (nI k) j = nI x.2.1 ∧ upd rB l.length (nI c) j = nI x.2.2) (fun j x hx hj => ?_) (fun _ => ⟨pk_us, pk_us⟩) j x hx hj
    have := (List.getElem?_eq_some_iff.mp hx).1
    rw [pk_un (by omega), pk_un (by omega)]
    exact h.2 j x hj hx
theorem BwR_old {rC : Nat → Int64} {rO rB : Nat → Int32} {l : BL} {k c : Nat} (h : BwR rC rO rB l) : ∀ (j : Nat) (x : Int64 × Nat × Nat), 0 < j → l[j]? = some x → upd rO l.length (nI k) j = nI x.2.1 ∧ upd rB l.length (nI c) j = nI x.2.2 := by
  intro j x hj hx
  have := (List.getElem?_eq_some_iff.mp hx).1
  rw [pk_un (by omega), pk_un (by omega)]
  exact h.2 j x hj hx
def lf (l : BL) (j : Nat) : Int64 := match l[j]? with
  | none => 0
  | some x => x.1
theorem lf_amg (q : Int64) (l : BL) : amg q (lf l) l.length = amgL q l := by
  refine amg_L (wf := fun j => match l[j]? with | none => 0 | some x => nI x.2.1) (wb := fun j => match l[j]? with | none => 0 | some x => nI x.2.2) (fun j x hx => ?_)
  exact ⟨by unfold lf; rw [hx], by dsimp only; rw [hx], by dsimp only; rw [hx]⟩
theorem amgL_no {q : Int64} {l : BL} (h : ∀ (j : Nat) (x : Int64 × Nat × Nat), l[j]? = some x → ¬ x.1 = q) : amgL q l = false := by
  rw [← lf_amg]
  have : ∀ n, n ≤ l.length → amg q (lf l) n = false := by
    intro n
    induction n with
    | zero => intro _; rfl
    | succ n ih =>
      intro hn
      show (amg q (lf l) n || decide (lf l n = q)) = false
      have hx : l[n]? = some l[n] := List.getElem?_eq_getElem (by omega)
      rw [ih (by omega), decide_eq_false (by unfold lf; rw [hx]; exact h n _ hx)]
      rfl
  exact this _ (Nat.le_refl _)
section R11
variable {rc rf ro rt ru rm rg : Nat → Int32} {rp rq : Int32} {ry rl : Nat → Int32} {rn ra : Int32} {rw rk : Nat → Int64} {rx rz rd : Nat → Int32} {rM rU rK : Int32} {rT rR : Nat → Int32} {rL rN rA rF : Int32} {rC : Nat → Int64} {rO rB rY rP : Nat → Int32} {rb : Int32}
variable {R : List AE}
set_option maxHeartbeats 8000000 in
theorem m_searches {n : Nat} {q : Int64} (hn : n ≤ 200) (hq : rw n = bt q) (hV : Vq q) (h0 : rw 0 = bt homeP) : SemP mX9_searches 8 0 0 [.ref 100] (R, mW rc rf ro rt ru rm rg rp rq ry rl rn ra rw rk rx rz rd (nI n) rU rK rT rR rL rN rA rF rC rO rB rY rP rb) (PsW R (fun rc rf ro rt ru rm rg rp rq ry rC rO rB => (R, mW rc rf ro rt ru rm rg rp rq ry rl rn ra rw rk rx rz rd (nI n) rU rK rT rR rL rN rA rF rC rO rB rY rP rb).2) (wayB nxC homeP q)) := by
  refine semP_of (by decide) (Nat.le_of_ble_eq_true rfl) rfl ?_
  generalize hw0 : (R, mW rc rf ro rt ru rm rg rp rq ry rl rn ra rw rk rx rz rd (nI n) rU rK rT rR rL rN rA rF rC rO rB rY rP rb) = w0
  have O : ∀ (m k : Nat) (l : BL) (rc rf ro rt ru rm rg : Nat → Int32) (rp rq : Int32) (ry : Nat → Int32) (rC : Nat → Int64) (rO rB : Nat → Int32) (y3 : Option Int32) (y4 : Option Int64) (y6 y7 : Option Int32), k + m = 250 → k ≤ l.length → Bs l → (∀ (j : Nat) (x : Int64 × Nat × Nat), l[j]? = some x → Vq x.1 ∧ ¬ x.1 = homeP) → BwR rC rO rB l → Rp mX9_searches 8 0 0 w0 (PsW R (fun rc rf ro rt ru rm rg rp rq ry rC rO rB => (R, mW rc rf ro rt ru rm rg rp rq ry rl rn ra rw rk rx rz rd (nI n) rU rK rT rR rL rN rA rF rC rO rB rY rP rb).2) (bout nxC homeP m k l)) 0 0 37 [some (.ref 100), some (.int (nI l.length)), some (.int (nI k)), y3.map .int, y4.map .long, none, y6.map .int, y7.map .int] [] (R, mW rc rf ro rt ru rm rg rp rq ry rl rn ra rw rk rx rz rd (nI n) rU rK rT rR rL rN rA rF rC rO rB rY rP rb) := by
    intro m
    induction m with
    | zero =>
      intro k l rc rf ro rt ru rm rg rp rq ry rC rO rB y3 y4 y6 y7 hk hkl hs hv hb
      have hl := hs.2.1
      refine r_iload_n dX9_searches_37 rfl ?_
      refine r_iload_n dX9_searches_38 rfl ?_
      refine r_icmp_geN 219 dX9_searches_39 (by decide) (by omega) (by omega) (fun h39 => ?_) (fun h39 => ?_)
      · refine r_pc 219 rfl ?_
        refine r_bipush (v := (-5)) dX9_searches_219 (by decide) ?_
        exact r_iretP dX9_searches_221 rfl ⟨_, _, _, _, _, _, _, _, _, _, _, _, _, rfl, Or.inr (Or.inr (Or.inr ⟨rfl, rfl⟩))⟩
      · exact absurd h39 (by omega)
    | succ m ih =>
      intro k l rc rf ro rt ru rm rg rp rq ry rC rO rB y3 y4 y6 y7 hk hkl hs hv hb
      have hl := hs.2.1
      by_cases hkl2 : k = l.length
      · have hno : l[k]? = none := List.getElem?_eq_none (by omega)
        rw [show bout nxC homeP (m + 1) k l = (2, []) by rw [bout, hno]]
        refine r_iload_n dX9_searches_37 rfl ?_
        refine r_iload_n dX9_searches_38 rfl ?_
        refine r_icmp_geN 219 dX9_searches_39 (by decide) (by omega) (by omega) (fun h39 => ?_) (fun h39 => ?_)
        · refine r_pc 219 rfl ?_
          refine r_bipush (v := (-5)) dX9_searches_219 (by decide) ?_
          exact r_iretP dX9_searches_221 rfl ⟨_, _, _, _, _, _, _, _, _, _, _, _, _, rfl, Or.inr (Or.inr (Or.inr ⟨rfl, rfl⟩))⟩
        · exact absurd h39 (by omega)
      · have hk2 : k < l.length := by omega
        have hx : l[k]? = some l[k] := List.getElem?_eq_getElem hk2
        have hvk := (hv k _ hx).1
        have hxq : ∃ q0, q0 = l[k].1 := ⟨_, rfl⟩
        obtain ⟨q0, hq0⟩ := hxq
        rw [← hq0] at hvk
        have hkq : l[k]? = some (q0, l[k].2) := by rw [hx, hq0]
        rw [show bout nxC homeP (m + 1) k l = (match bin nxC homeP k q0 108 0 l with | .inl l' => bout nxC homeP m (k + 1) l' | .inr r => r) by rw [bout, hkq]; rfl]
        have I : ∀ (m2 c : Nat) (l : BL) (rc rf ro rt ru rm rg : Nat → Int32) (rp rq : Int32) (ry : Nat → Int32) (rC : Nat → Int64) (rO rB : Nat → Int32) (y4 : Option Int64) (y6 y7 : Option Int32), c + m2 = 108 → (∃ z, l[k]? = some (q0, z)) → Bs l → (∀ (j : Nat) (x : Int64 × Nat × Nat), l[j]? = some x → Vq x.1 ∧ ¬ x.1 = homeP) → BwR rC rO rB l → Rp mX9_searches 8 0 0 w0 (PsW R (fun rc rf ro rt ru rm rg rp rq ry rC rO rB => (R, mW rc rf ro rt ru rm rg rp rq ry rl rn ra rw rk rx rz rd (nI n) rU rK rT rR rL rN rA rF rC rO rB rY rP rb).2) (match bin nxC homeP k q0 m2 c l with | .inl l' => bout nxC homeP m (k + 1) l' | .inr r => r)) 0 0 44 [some (.ref 100), some (.int (nI l.length)), some (.int (nI k)), some (.int (nI c)), y4.map .long, none, y6.map .int, y7.map .int] [] (R, mW rc rf ro rt ru rm rg rp rq ry rl rn ra rw rk rx rz rd (nI n) rU rK rT rR rL rN rA rF rC rO rB rY rP rb) := by
          intro m2
          induction m2 with
          | zero =>
            intro c l rc rf ro rt ru rm rg rp rq ry rC rO rB y4 y6 y7 hc hz hs hv hb
            obtain ⟨zz, hzz⟩ := id hz
            have hkl := (List.getElem?_eq_some_iff.mp hzz).1
            have hl := hs.2.1
            refine r_iload_n dX9_searches_44 rfl ?_
            refine r_bipush (v := (nI 108)) dX9_searches_45 (by decide) ?_
            refine r_icmp_geN 213 dX9_searches_47 (by decide) (by omega) (by omega) (fun h47 => ?_) (fun h47 => ?_)
            · refine r_pc 213 rfl ?_
              refine r_inc1 (ls' := [_, _, _, _, _, _, _, _]) dX9_searches_213 (by decide) rfl rfl ?_
              refine r_goto 37 dX9_searches_216 (by decide) ?_
              refine r_pc 37 rfl ?_
              exact ih (k + 1) l _ _ _ _ _ _ _ _ _ _ _ _ _ (some (nI c)) _ _ _ (by omega) (by omega) hs hv hb
            · exact absurd h47 (by omega)
          | succ m2 ih2 =>
            intro c l rc rf ro rt ru rm rg rp rq ry rC rO rB y4 y6 y7 hc hz hs hv hb
            obtain ⟨zz, hzz⟩ := id hz
            have hkl := (List.getElem?_eq_some_iff.mp hzz).1
            have b0 : rC k = bt q0 := hb.1 k (q0, zz) hzz
            have hl := hs.2.1
            have hc8 : c < 108 := by omega
            have hw9 : c / 12 < 9 := by omega
            have hg12 : c % 12 < 12 := by omega
            unfold bin
            refine r_drop (ls' := [some (.ref 100), some (.int (nI l.length)), some (.int (nI k)), some (.int (nI c)), none, none, none, none]) ⟨rfl, rfl, rfl, rfl, trivial⟩ ?_
            cases ho : POK (sqc q0) (sqf q0) (c / 12) (c % 12) with
            | false =>
              have hno : nxC q0 c = none := by rw [nxC, ho]
              rw [hno]
              refine r_iload_n dX9_searches_44 rfl ?_
              refine r_bipush (v := (nI 108)) dX9_searches_45 (by decide) ?_
              refine r_icmp_geN 213 dX9_searches_47 (by decide) (by omega) (by omega) (fun h47 => ?_) (fun h47 => ?_)
              · exact absurd h47 (by omega)
              · refine r_pc 50 rfl ?_
                refine r_aload_n dX9_searches_50 rfl ?_
                refine r_aload_n dX9_searches_51 rfl ?_
                refine r_get dX9_searches_52 fX9_115 rfl rfl ?_
                refine r_iload_n dX9_searches_55 rfl ?_
                refine r_lald dX9_searches_56 rfl rfl (by omega) (by decide) ?_
                refine r_pc 57 rfl ?_
                refine r_topl _ b0 ?_
                refine r_cVv dX9_searches_57 (m_looks _) lX9_140 rfl rfl rfl (by decide) ⟨Nat.le_refl _, Nat.le_refl _⟩ (Nat.le_of_ble_eq_true rfl) ?_
                refine r_aload_n dX9_searches_60 rfl ?_
                refine r_iload_n dX9_searches_61 rfl ?_
                refine r_bipush (v := (nI 12)) dX9_searches_62 (by decide) ?_
                refine r_idivN dX9_searches_64 (by omega) (by decide) (by decide) ?_
                refine r_pc 65 rfl ?_
                refine r_iload_n dX9_searches_65 rfl ?_
                refine r_bipush (v := (nI 12)) dX9_searches_66 (by decide) ?_
                refine r_iremN dX9_searches_68 (by omega) (by decide) (by decide) ?_
                refine r_cVP dX9_searches_69 (m_tries hw9 hg12 (Sq_bt q0) (Sd_bt q0) hvk.1) lX9_268 rfl rfl rfl (by decide) ⟨Nat.le_refl _, Nat.le_refl _⟩ (Nat.le_of_ble_eq_true rfl) (fun r w2 hpz => ?_)
                obtain ⟨rfl, rt2, ru2, rm2, rg2, rp2, rfl, hk9⟩ := hpz
                rw [ho]
                refine r_pc 72 rfl ?_
                refine r_if_ne 78 dX9_searches_72 (by decide) (fun h72 => ?_) (fun h72 => ?_)
                · exact absurd rfl h72
                · refine r_pc 75 rfl ?_
                  refine r_goto 207 dX9_searches_75 (by decide) ?_
                  refine r_inc1 (ls' := [_, _, _, _, _, _, _, _]) dX9_searches_207 (by decide) rfl rfl ?_
                  refine r_goto 44 dX9_searches_210 (by decide) ?_
                  refine r_pc 44 rfl ?_
                  exact ih2 (c + 1) l _ _ _ _ _ _ _ _ _ _ _ _ _ none none none (by omega) hz hs hv hb
            | true =>
              have hno : nxC q0 c = some (pkI (fun j => stI (PT (sqc q0) (sqf q0) (c / 12) (c % 12) j)) (fun j => nI (PU (sqc q0) (sqf q0) (c / 12) (c % 12) j)) 8) := by rw [nxC, ho]
              have hvn := nxv q0 c _ hvk hc8 hno
              rw [hno]
              generalize hqn : pkI (fun j => stI (PT (sqc q0) (sqf q0) (c / 12) (c % 12) j)) (fun j => nI (PU (sqc q0) (sqf q0) (c / 12) (c % 12) j)) 8 = qn at hvn hno
              dsimp only
              generalize hres : (match if qn = homeP then Sum.inr (0, pthL l 250 k ++ [bcode c]) else match amgL qn l with | true => bin nxC homeP k q0 m2 (c + 1) l | false => if l.length < 250 then bin nxC homeP k q0 m2 (c + 1) (l ++ [(qn, k, bcode c)]) else Sum.inr (1, []) with | .inl l' => bout nxC homeP m (k + 1) l' | .inr r => r : Nat × List Nat) = res
              have F : ∀ (rc rf ro rt ru rm rg : Nat → Int32) (rp rq : Int32) (ry : Nat → Int32) (rC : Nat → Int64) (rO rB : Nat → Int32) (j : Nat), BwR rC rO rB l → Rp mX9_searches 8 0 0 w0 (PsW R (fun rc rf ro rt ru rm rg rp rq ry rC rO rB => (R, mW rc rf ro rt ru rm rg rp rq ry rl rn ra rw rk rx rz rd (nI n) rU rK rT rR rL rN rA rF rC rO rB rY rP rb).2) (res)) 0 0 127 [some (.ref 100), some (.int (nI l.length)), some (.int (nI k)), some (.int (nI c)), some (.long (bt qn)), none, some (.int (bI (!amgL qn l))), some (.int (nI j))] [] (R, mW rc rf ro rt ru rm rg rp rq ry rl rn ra rw rk rx rz rd (nI n) rU rK rT rR rL rN rA rF rC rO rB rY rP rb) := by
                intro rc rf ro rt ru rm rg rp rq ry rC rO rB j hb
                by_cases hhm : qn = homeP
                · rw [if_pos hhm] at hres
                  subst hres
                  have ha : amgL qn l = false := amgL_no (fun j x hx => by rw [hhm]; exact (hv j x hx).2)
                  rw [ha]
                  have hz0 : rw 0 = bt qn := by rw [h0, hhm]
                  have hP := BwR_old (k := k) (c := bcode c) hb
                  have hret : PsR (0, pthL l 250 k ++ [bcode c]) (upd rO l.length (nI k)) (upd rB l.length (nI (bcode c))) (some (.int (nI l.length))) := Or.inr (Or.inl ⟨l, k, bcode c, rfl, hs, hkl, hP, pk_us, pk_us, rfl⟩)
                  have G : Rp mX9_searches 8 0 0 w0 (PsW R (fun rc rf ro rt ru rm rg rp rq ry rC rO rB => (R, mW rc rf ro rt ru rm rg rp rq ry rl rn ra rw rk rx rz rd (nI n) rU rK rT rR rL rN rA rF rC rO rB rY rP rb).2) ((0, pthL l 250 k ++ [bcode c]))) 0 0 157 [some (.ref 100), some (.int (nI l.length)), some (.int (nI k)), some (.int (nI c)), some (.long (bt qn)), none, some (.int (nI 1)), some (.int (nI j))] [] (R, mW rc rf ro rt ru rm rg rp rq ry rl rn ra rw rk rx rz rd (nI n) rU rK rT rR rL rN rA rF rC rO rB rY rP rb) := by
                    refine r_aload_n dX9_searches_157 rfl ?_
                    refine r_get dX9_searches_158 fX9_115 rfl rfl ?_
                    refine r_iload_n dX9_searches_161 rfl ?_
                    refine r_lload dX9_searches_162 rfl ?_
                    refine r_last (w2 := (_, mW _ _ _ _ _ _ _ _ _ _ _ _ _ _ _ _ _ _ _ _ _ _ _ _ _ _ _ _ _ _ _ _ _)) dX9_searches_164 rfl rfl (by omega) (by decide) rfl ?_
                    refine r_pc 165 rfl ?_
                    refine r_aload_n dX9_searches_165 rfl ?_
                    refine r_get dX9_searches_166 fX9_118 rfl rfl ?_
                    refine r_iload_n dX9_searches_169 rfl ?_
                    refine r_iload_n dX9_searches_170 rfl ?_
                    refine r_iast (w2 := (_, mW _ _ _ _ _ _ _ _ _ _ _ _ _ _ _ _ _ _ _ _ _ _ _ _ _ _ _ _ _ _ _ _ _)) dX9_searches_171 rfl rfl (by omega) (by decide) rfl ?_
                    refine r_pc 172 rfl ?_
                    refine r_aload_n dX9_searches_172 rfl ?_
                    refine r_get dX9_searches_173 fX9_121 rfl rfl ?_
                    refine r_iload_n dX9_searches_176 rfl ?_
                    refine r_bipush (v := (nI 100)) dX9_searches_177 (by decide) ?_
                    refine r_iload_n dX9_searches_179 rfl ?_
                    refine r_pc 180 rfl ?_
                    refine r_bipush (v := (nI 12)) dX9_searches_180 (by decide) ?_
                    refine r_idivN dX9_searches_182 (by omega) (by decide) (by decide) ?_
                    refine r_imulN dX9_searches_183 ?_
                    refine r_iload_n dX9_searches_184 rfl ?_
                    refine r_bipush (v := (nI 12)) dX9_searches_185 (by decide) ?_
                    refine r_pc 187 rfl ?_
                    refine r_iremN dX9_searches_187 (by omega) (by decide) (by decide) ?_
                    refine r_iaddN dX9_searches_188 ?_
                    refine r_iast (w2 := (_, mW _ _ _ _ _ _ _ _ _ _ _ _ _ _ _ _ _ _ _ _ _ _ _ _ _ _ _ _ _ _ _ _ _)) dX9_searches_189 rfl rfl (by omega) (by decide) rfl ?_
                    refine r_lload dX9_searches_190 rfl ?_
                    refine r_aload_n dX9_searches_192 rfl ?_
                    refine r_pc 193 rfl ?_
                    refine r_get dX9_searches_193 fX9_89 rfl rfl ?_
                    refine r_iconst (v := (nI 0)) dX9_searches_196 (by decide) ?_
                    refine r_lald dX9_searches_197 rfl rfl (by decide) (by decide) ?_
                    refine r_topl _ hz0 ?_
                    refine r_lcmp dX9_searches_198 ?_
                    refine r_if_ne 204 dX9_searches_199 (by decide) (fun h199 => ?_) (fun h199 => ?_)
                    · exact absurd ((lg_cmp_eq _ _).mpr rfl) h199
                    · refine r_pc 202 rfl ?_
                      refine r_iload_n dX9_searches_202 rfl ?_
                      exact r_iretP dX9_searches_203 rfl ⟨_, _, _, _, _, _, _, _, _, _, _, _, _, rfl, hret⟩
                  refine r_iload dX9_searches_127 rfl ?_
                  refine r_if_ne 135 dX9_searches_129 (by decide) (fun h129 => ?_) (fun h129 => ?_)
                  · refine r_pc 135 rfl ?_
                    refine r_iload_n dX9_searches_135 rfl ?_
                    refine r_sipush (v := (nI 250)) dX9_searches_136 (by decide) ?_
                    refine r_icmp_neN 157 dX9_searches_139 (by decide) (by omega) (by omega) (fun h139 => ?_) (fun h139 => ?_)
                    · refine r_pc 157 rfl ?_
                      refine r_pc 157 rfl ?_
                      exact G
                    · refine r_pc 142 rfl ?_
                      refine r_lload dX9_searches_142 rfl ?_
                      refine r_aload_n dX9_searches_144 rfl ?_
                      refine r_get dX9_searches_145 fX9_89 rfl rfl ?_
                      refine r_iconst (v := (nI 0)) dX9_searches_148 (by decide) ?_
                      refine r_lald dX9_searches_149 rfl rfl (by decide) (by decide) ?_
                      refine r_pc 150 rfl ?_
                      refine r_topl _ hz0 ?_
                      refine r_lcmp dX9_searches_150 ?_
                      refine r_if_eq 157 dX9_searches_151 (by decide) (fun h151 => ?_) (fun h151 => ?_)
                      · refine r_pc 157 rfl ?_
                        refine r_pc 157 rfl ?_
                        exact G
                      · exact absurd ((lg_cmp_eq _ _).mpr rfl) h151
                  · exact absurd h129 (by decide)
                · rw [if_neg hhm] at hres
                  have hz0 : ¬ bt qn = rw 0 := by rw [h0]; exact fun z => hhm (bt_inj hvn home_V z)
                  cases ha : amgL qn l with
                  | true =>
                    rw [ha] at hres
                    subst hres
                    refine r_iload dX9_searches_127 rfl ?_
                    refine r_if_ne 135 dX9_searches_129 (by decide) (fun h129 => ?_) (fun h129 => ?_)
                    · exact absurd rfl h129
                    · refine r_pc 132 rfl ?_
                      refine r_goto 207 dX9_searches_132 (by decide) ?_
                      refine r_inc1 (ls' := [_, _, _, _, _, _, _, _]) dX9_searches_207 (by decide) rfl rfl ?_
                      refine r_goto 44 dX9_searches_210 (by decide) ?_
                      refine r_pc 44 rfl ?_
                      exact ih2 (c + 1) l _ _ _ _ _ _ _ _ _ _ _ _ _ (some (bt qn)) (some (nI 0)) (some (nI j)) (by omega) hz hs hv hb
                  | false =>
                    rw [ha] at hres
                    dsimp only at hres
                    by_cases hl2 : l.length < 250
                    · rw [if_pos hl2] at hres
                      subst hres
                      have hbc : bcode c < 1000 := by unfold bcode; omega
                      have ih2 := fun rc rf ro rt ru rm rg rp rq ry => ih2 (c + 1) (l ++ [(qn, k, bcode c)]) rc rf ro rt ru rm rg rp rq ry (vp_updL rC l.length (bt qn)) (upd rO l.length (nI k)) (upd rB l.length (nI (bcode c))) (some (bt qn)) (some (nI 1)) (some (nI j)) (by omega) ⟨zz, by rw [List.getElem?_append_left hkl]; exact hzz⟩ (Bs_push hs hkl hbc hl2) (psh_at hv ⟨hvn, hhm⟩) (BwR_push hb)
                      rw [show (l ++ [(qn, k, bcode c)]).length = l.length + 1 by simp] at ih2
                      refine r_iload dX9_searches_127 rfl ?_
                      refine r_if_ne 135 dX9_searches_129 (by decide) (fun h129 => ?_) (fun h129 => ?_)
                      · refine r_pc 135 rfl ?_
                        refine r_iload_n dX9_searches_135 rfl ?_
                        refine r_sipush (v := (nI 250)) dX9_searches_136 (by decide) ?_
                        refine r_icmp_neN 157 dX9_searches_139 (by decide) (by omega) (by omega) (fun h139 => ?_) (fun h139 => ?_)
                        · refine r_pc 157 rfl ?_
                          refine r_aload_n dX9_searches_157 rfl ?_
                          refine r_get dX9_searches_158 fX9_115 rfl rfl ?_
                          refine r_iload_n dX9_searches_161 rfl ?_
                          refine r_lload dX9_searches_162 rfl ?_
                          refine r_last (w2 := (_, mW _ _ _ _ _ _ _ _ _ _ _ _ _ _ _ _ _ _ _ _ _ _ _ _ _ _ _ _ _ _ _ _ _)) dX9_searches_164 rfl rfl (by omega) (by decide) rfl ?_
                          refine r_pc 165 rfl ?_
                          refine r_aload_n dX9_searches_165 rfl ?_
                          refine r_get dX9_searches_166 fX9_118 rfl rfl ?_
                          refine r_iload_n dX9_searches_169 rfl ?_
                          refine r_iload_n dX9_searches_170 rfl ?_
                          refine r_iast (w2 := (_, mW _ _ _ _ _ _ _ _ _ _ _ _ _ _ _ _ _ _ _ _ _ _ _ _ _ _ _ _ _ _ _ _ _)) dX9_searches_171 rfl rfl (by omega) (by decide) rfl ?_
                          refine r_pc 172 rfl ?_
                          refine r_aload_n dX9_searches_172 rfl ?_
                          refine r_get dX9_searches_173 fX9_121 rfl rfl ?_
                          refine r_iload_n dX9_searches_176 rfl ?_
                          refine r_bipush (v := (nI 100)) dX9_searches_177 (by decide) ?_
                          refine r_iload_n dX9_searches_179 rfl ?_
                          refine r_pc 180 rfl ?_
                          refine r_bipush (v := (nI 12)) dX9_searches_180 (by decide) ?_
                          refine r_idivN dX9_searches_182 (by omega) (by decide) (by decide) ?_
                          refine r_imulN dX9_searches_183 ?_
                          refine r_iload_n dX9_searches_184 rfl ?_
                          refine r_bipush (v := (nI 12)) dX9_searches_185 (by decide) ?_
                          refine r_pc 187 rfl ?_
                          refine r_iremN dX9_searches_187 (by omega) (by decide) (by decide) ?_
                          refine r_iaddN dX9_searches_188 ?_
                          refine r_iast (w2 := (_, mW _ _ _ _ _ _ _ _ _ _ _ _ _ _ _ _ _ _ _ _ _ _ _ _ _ _ _ _ _ _ _ _ _)) dX9_searches_189 rfl rfl (by omega) (by decide) rfl ?_
                          refine r_lload dX9_searches_190 rfl ?_
                          refine r_aload_n dX9_searches_192 rfl ?_
                          refine r_pc 193 rfl ?_
                          refine r_get dX9_searches_193 fX9_89 rfl rfl ?_
                          refine r_iconst (v := (nI 0)) dX9_searches_196 (by decide) ?_
                          refine r_lald dX9_searches_197 rfl rfl (by decide) (by decide) ?_
                          refine r_lcmp dX9_searches_198 ?_
                          refine r_if_ne 204 dX9_searches_199 (by decide) (fun h199 => ?_) (fun h199 => ?_)
                          · refine r_pc 204 rfl ?_
                            refine r_inc1 (ls' := [_, _, _, _, _, _, _, _]) dX9_searches_204 (by decide) rfl rfl ?_
                            refine r_inc1 (ls' := [_, _, _, _, _, _, _, _]) dX9_searches_207 (by decide) rfl rfl ?_
                            refine r_goto 44 dX9_searches_210 (by decide) ?_
                            refine r_pc 44 rfl ?_
                            exact ih2 _ _ _ _ _ _ _ _ _ _
                          · exact absurd ((lg_cmp_eq _ _).mp h199) hz0
                        · exact absurd h139 (by omega)
                      · exact absurd h129 (by decide)
                    · rw [if_neg hl2] at hres
                      subst hres
                      refine r_iload dX9_searches_127 rfl ?_
                      refine r_if_ne 135 dX9_searches_129 (by decide) (fun h129 => ?_) (fun h129 => ?_)
                      · refine r_pc 135 rfl ?_
                        refine r_iload_n dX9_searches_135 rfl ?_
                        refine r_sipush (v := (nI 250)) dX9_searches_136 (by decide) ?_
                        refine r_icmp_neN 157 dX9_searches_139 (by decide) (by omega) (by omega) (fun h139 => ?_) (fun h139 => ?_)
                        · exact absurd h139 (by omega)
                        · refine r_pc 142 rfl ?_
                          refine r_lload dX9_searches_142 rfl ?_
                          refine r_aload_n dX9_searches_144 rfl ?_
                          refine r_get dX9_searches_145 fX9_89 rfl rfl ?_
                          refine r_iconst (v := (nI 0)) dX9_searches_148 (by decide) ?_
                          refine r_lald dX9_searches_149 rfl rfl (by decide) (by decide) ?_
                          refine r_pc 150 rfl ?_
                          refine r_lcmp dX9_searches_150 ?_
                          refine r_if_eq 157 dX9_searches_151 (by decide) (fun h151 => ?_) (fun h151 => ?_)
                          · exact absurd ((lg_cmp_eq _ _).mp h151) hz0
                          · refine r_pc 154 rfl ?_
                            refine r_bipush (v := (-7)) dX9_searches_154 (by decide) ?_
                            exact r_iretP dX9_searches_156 rfl ⟨_, _, _, _, _, _, _, _, _, _, _, _, _, rfl, Or.inr (Or.inr (Or.inl ⟨rfl, rfl⟩))⟩
                      · exact absurd h129 (by decide)
              have Ln : ∀ (y j : Nat) (rc rf ro rt ru rm rg : Nat → Int32) (rp rq : Int32) (ry : Nat → Int32) (rC : Nat → Int64) (rO rB : Nat → Int32), j + y = l.length → BwR rC rO rB l → Rp mX9_searches 8 0 0 w0 (PsW R (fun rc rf ro rt ru rm rg rp rq ry rC rO rB => (R, mW rc rf ro rt ru rm rg rp rq ry rl rn ra rw rk rx rz rd (nI n) rU rK rT rR rL rN rA rF rC rO rB rY rP rb).2) (res)) 0 0 90 [some (.ref 100), some (.int (nI l.length)), some (.int (nI k)), some (.int (nI c)), some (.long (bt qn)), none, some (.int (bI (!amg qn (lf l) j))), some (.int (nI j))] [] (R, mW rc rf ro rt ru rm rg rp rq ry rl rn ra rw rk rx rz rd (nI n) rU rK rT rR rL rN rA rF rC rO rB rY rP rb) := by
                intro y
                induction y with
                | zero =>
                  intro j rc rf ro rt ru rm rg rp rq ry rC rO rB hj hb
                  have F := F rc rf ro rt ru rm rg rp rq ry rC rO rB j hb
                  rw [← lf_amg] at F
                  have : j = l.length := by omega
                  rw [this] at F ⊢
                  refine r_iload dX9_searches_90 rfl ?_
                  refine r_iload_n dX9_searches_92 rfl ?_
                  refine r_icmp_geN 127 dX9_searches_93 (by decide) (by omega) (by omega) (fun h93 => ?_) (fun h93 => ?_)
                  · refine r_pc 127 rfl ?_
                    refine r_pc 127 rfl ?_
                    exact F
                  · exact absurd h93 (by omega)
                | succ y ih3 =>
                  intro j rc rf ro rt ru rm rg rp rq ry rC rO rB hj hb
                  have F := F rc rf ro rt ru rm rg rp rq ry rC rO rB j hb
                  have ih3 := ih3 (j + 1) rc rf ro rt ru rm rg rp rq ry rC rO rB (by omega) hb
                  have hjl : j < l.length := by omega
                  have hxj : l[j]? = some l[j] := List.getElem?_eq_getElem hjl
                  have hlf : lf l j = l[j].1 := by unfold lf; rw [hxj]
                  have hvj := (hv j _ hxj).1
                  rw [← hlf] at hvj
                  have ej : rC j = bt (lf l j) := by rw [hlf]; exact hb.1 j _ hxj
                  cases ha : amg qn (lf l) j with
                  | true =>
                    rw [← lf_amg, show amg qn (lf l) l.length = true by have := amg_ge ha (y + 1); rwa [show j + (y + 1) = l.length by omega] at this] at F
                    refine r_iload dX9_searches_90 rfl ?_
                    refine r_iload_n dX9_searches_92 rfl ?_
                    refine r_icmp_geN 127 dX9_searches_93 (by decide) (by omega) (by omega) (fun h93 => ?_) (fun h93 => ?_)
                    · exact absurd h93 (by omega)
                    · refine r_pc 96 rfl ?_
                      refine r_iload dX9_searches_96 rfl ?_
                      refine r_if_eq 127 dX9_searches_98 (by decide) (fun h98 => ?_) (fun h98 => ?_)
                      · refine r_pc 127 rfl ?_
                        refine r_pc 127 rfl ?_
                        exact F
                      · exact absurd rfl h98
                  | false =>
                    have e1 : amg qn (lf l) (j + 1) = decide (lf l j = qn) := by show (amg qn (lf l) j || _) = _; rw [ha, Bool.false_or]
                    rw [e1] at ih3
                    by_cases e : lf l j = qn
                    · rw [decide_eq_true e] at ih3
                      refine r_iload dX9_searches_90 rfl ?_
                      refine r_iload_n dX9_searches_92 rfl ?_
                      refine r_icmp_geN 127 dX9_searches_93 (by decide) (by omega) (by omega) (fun h93 => ?_) (fun h93 => ?_)
                      · exact absurd h93 (by omega)
                      · refine r_pc 96 rfl ?_
                        refine r_iload dX9_searches_96 rfl ?_
                        refine r_if_eq 127 dX9_searches_98 (by decide) (fun h98 => ?_) (fun h98 => ?_)
                        · exact absurd h98 (by decide)
                        · refine r_pc 101 rfl ?_
                          refine r_aload_n dX9_searches_101 rfl ?_
                          refine r_get dX9_searches_102 fX9_115 rfl rfl ?_
                          refine r_iload dX9_searches_105 rfl ?_
                          refine r_lald dX9_searches_107 rfl rfl (by omega) (by decide) ?_
                          refine r_topl _ ej ?_
                          refine r_lload dX9_searches_108 rfl ?_
                          refine r_pc 110 rfl ?_
                          refine r_lcmp dX9_searches_110 ?_
                          refine r_if_eq 118 dX9_searches_111 (by decide) (fun h111 => ?_) (fun h111 => ?_)
                          · refine r_pc 118 rfl ?_
                            refine r_iconst (v := (nI 0)) dX9_searches_118 (by decide) ?_
                            refine r_istore (ls' := [_, _, _, _, _, _, _, _]) dX9_searches_119 (by decide) rfl ?_
                            refine r_inc1 (ls' := [_, _, _, _, _, _, _, _]) dX9_searches_121 (by decide) rfl rfl ?_
                            refine r_goto 90 dX9_searches_124 (by decide) ?_
                            refine r_pc 90 rfl ?_
                            exact ih3
                          · exact absurd ((lg_cmp_eq _ _).mpr (by rw [e])) h111
                    · rw [decide_eq_false e] at ih3
                      refine r_iload dX9_searches_90 rfl ?_
                      refine r_iload_n dX9_searches_92 rfl ?_
                      refine r_icmp_geN 127 dX9_searches_93 (by decide) (by omega) (by omega) (fun h93 => ?_) (fun h93 => ?_)
                      · exact absurd h93 (by omega)
                      · refine r_pc 96 rfl ?_
                        refine r_iload dX9_searches_96 rfl ?_
                        refine r_if_eq 127 dX9_searches_98 (by decide) (fun h98 => ?_) (fun h98 => ?_)
                        · exact absurd h98 (by decide)
                        · refine r_pc 101 rfl ?_
                          refine r_aload_n dX9_searches_101 rfl ?_
                          refine r_get dX9_searches_102 fX9_115 rfl rfl ?_
                          refine r_iload dX9_searches_105 rfl ?_
                          refine r_lald dX9_searches_107 rfl rfl (by omega) (by decide) ?_
                          refine r_topl _ ej ?_
                          refine r_lload dX9_searches_108 rfl ?_
                          refine r_pc 110 rfl ?_
                          refine r_lcmp dX9_searches_110 ?_
                          refine r_if_eq 118 dX9_searches_111 (by decide) (fun h111 => ?_) (fun h111 => ?_)
                          · exact absurd (bt_inj hvj hvn ((lg_cmp_eq _ _).mp h111)) e
                          · refine r_pc 114 rfl ?_
                            refine r_iconst (v := (nI 1)) dX9_searches_114 (by decide) ?_
                            refine r_goto 119 dX9_searches_115 (by decide) ?_
                            refine r_istore (ls' := [_, _, _, _, _, _, _, _]) dX9_searches_119 (by decide) rfl ?_
                            refine r_inc1 (ls' := [_, _, _, _, _, _, _, _]) dX9_searches_121 (by decide) rfl rfl ?_
                            refine r_goto 90 dX9_searches_124 (by decide) ?_
                            refine r_pc 90 rfl ?_
                            exact ih3
              refine r_iload_n dX9_searches_44 rfl ?_
              refine r_bipush (v := (nI 108)) dX9_searches_45 (by decide) ?_
              refine r_icmp_geN 213 dX9_searches_47 (by decide) (by omega) (by omega) (fun h47 => ?_) (fun h47 => ?_)
              · exact absurd h47 (by omega)
              · refine r_pc 50 rfl ?_
                refine r_aload_n dX9_searches_50 rfl ?_
                refine r_aload_n dX9_searches_51 rfl ?_
                refine r_get dX9_searches_52 fX9_115 rfl rfl ?_
                refine r_iload_n dX9_searches_55 rfl ?_
                refine r_lald dX9_searches_56 rfl rfl (by omega) (by decide) ?_
                refine r_pc 57 rfl ?_
                refine r_topl _ b0 ?_
                refine r_cVv dX9_searches_57 (m_looks _) lX9_140 rfl rfl rfl (by decide) ⟨Nat.le_refl _, Nat.le_refl _⟩ (Nat.le_of_ble_eq_true rfl) ?_
                refine r_aload_n dX9_searches_60 rfl ?_
                refine r_iload_n dX9_searches_61 rfl ?_
                refine r_bipush (v := (nI 12)) dX9_searches_62 (by decide) ?_
                refine r_idivN dX9_searches_64 (by omega) (by decide) (by decide) ?_
                refine r_pc 65 rfl ?_
                refine r_iload_n dX9_searches_65 rfl ?_
                refine r_bipush (v := (nI 12)) dX9_searches_66 (by decide) ?_
                refine r_iremN dX9_searches_68 (by omega) (by decide) (by decide) ?_
                refine r_cVP dX9_searches_69 (m_tries hw9 hg12 (Sq_bt q0) (Sd_bt q0) hvk.1) lX9_268 rfl rfl rfl (by decide) ⟨Nat.le_refl _, Nat.le_refl _⟩ (Nat.le_of_ble_eq_true rfl) (fun r w2 hpz => ?_)
                obtain ⟨rfl, rt2, ru2, rm2, rg2, rp2, rfl, hk9⟩ := hpz
                obtain ⟨k1, k2, k3⟩ := hk9 ho
                rw [ho]
                refine r_pc 72 rfl ?_
                refine r_if_ne 78 dX9_searches_72 (by decide) (fun h72 => ?_) (fun h72 => ?_)
                · refine r_pc 78 rfl ?_
                  refine r_aload_n dX9_searches_78 rfl ?_
                  refine r_cV dX9_searches_79 m_made lX9_249 rfl rfl rfl (by decide) ⟨Nat.le_refl _, Nat.le_refl _⟩ (Nat.le_of_ble_eq_true rfl) ?_
                  refine r_topl _ (nx_bt hvk.1 hc8 hno k1 k2) ?_
                  refine r_lstore (ls' := [_, _, _, _, _, _, _, _]) dX9_searches_82 (by decide) rfl ?_
                  refine r_iconst (v := (nI 1)) dX9_searches_84 (by decide) ?_
                  refine r_istore (ls' := [_, _, _, _, _, _, _, _]) dX9_searches_85 (by decide) rfl ?_
                  refine r_pc 87 rfl ?_
                  refine r_iconst (v := (nI 0)) dX9_searches_87 (by decide) ?_
                  refine r_istore (ls' := [_, _, _, _, _, _, _, _]) dX9_searches_88 (by decide) rfl ?_
                  refine r_pc 90 rfl ?_
                  exact Ln l.length 0 _ _ _ _ _ _ _ _ _ _ _ _ _ (by omega) hb
                · exact absurd h72 (by decide)
        refine r_iload_n dX9_searches_37 rfl ?_
        refine r_iload_n dX9_searches_38 rfl ?_
        refine r_icmp_geN 219 dX9_searches_39 (by decide) (by omega) (by omega) (fun h39 => ?_) (fun h39 => ?_)
        · exact absurd h39 (by omega)
        · refine r_pc 42 rfl ?_
          refine r_iconst (v := (nI 0)) dX9_searches_42 (by decide) ?_
          refine r_istore_n (ls' := [_, _, _, _, _, _, _, _]) dX9_searches_43 (by decide) rfl ?_
          refine r_pc 44 rfl ?_
          exact I 108 0 l _ _ _ _ _ _ _ _ _ _ _ _ _ _ _ _ (by omega) ⟨l[k].2, hkq⟩ hs hv hb
  subst hw0
  by_cases hqh : q = homeP
  · rw [show wayB nxC homeP q = (0, []) by rw [wayB, if_pos hqh]]
    have hz0 : vp_updL rC 0 (bt q) 0 = rw 0 := by rw [pk_uLs, h0, hqh]
    refine r_aload_n dX9_searches_0 rfl ?_
    refine r_get dX9_searches_1 fX9_115 rfl rfl ?_
    refine r_iconst (v := (nI 0)) dX9_searches_4 (by decide) ?_
    refine r_aload_n dX9_searches_5 rfl ?_
    refine r_get dX9_searches_6 fX9_89 rfl rfl ?_
    refine r_pc 9 rfl ?_
    refine r_aload_n dX9_searches_9 rfl ?_
    refine r_get dX9_searches_10 fX9_144 rfl rfl ?_
    refine r_lald dX9_searches_13 rfl rfl (by omega) (by decide) ?_
    refine r_topl _ hq ?_
    refine r_last (w2 := (_, mW _ _ _ _ _ _ _ _ _ _ _ _ _ _ _ _ _ _ _ _ _ _ _ _ _ _ _ _ _ _ _ _ _)) dX9_searches_14 rfl rfl (by decide) (by decide) rfl ?_
    refine r_aload_n dX9_searches_15 rfl ?_
    refine r_pc 16 rfl ?_
    refine r_get dX9_searches_16 fX9_115 rfl rfl ?_
    refine r_iconst (v := (nI 0)) dX9_searches_19 (by decide) ?_
    refine r_lald dX9_searches_20 rfl rfl (by decide) (by decide) ?_
    refine r_topl _ hz0 ?_
    refine r_aload_n dX9_searches_21 rfl ?_
    refine r_get dX9_searches_22 fX9_89 rfl rfl ?_
    refine r_pc 25 rfl ?_
    refine r_iconst (v := (nI 0)) dX9_searches_25 (by decide) ?_
    refine r_lald dX9_searches_26 rfl rfl (by decide) (by decide) ?_
    refine r_lcmp dX9_searches_27 ?_
    refine r_if_ne 33 dX9_searches_28 (by decide) (fun h28 => ?_) (fun h28 => ?_)
    · exact absurd ((lg_cmp_eq _ _).mpr rfl) h28
    · refine r_pc 31 rfl ?_
      refine r_iconst (v := (nI 0)) dX9_searches_31 (by decide) ?_
      exact r_iretP dX9_searches_32 rfl ⟨_, _, _, _, _, _, _, _, _, _, _, _, _, rfl, Or.inl ⟨rfl, rfl⟩⟩
  · rw [show wayB nxC homeP q = bout nxC homeP 250 0 [(q, 0, 0)] by rw [wayB, if_neg hqh]]
    have hz0 : ¬ vp_updL rC 0 (bt q) 0 = rw 0 := by rw [pk_uLs, h0]; exact fun z => hqh (bt_inj hV home_V z)
    have O := fun rc rf ro rt ru rm rg rp rq ry rC rO rB => O 250 0 [(q, 0, 0)] rc rf ro rt ru rm rg rp rq ry rC rO rB none none none none (by decide) (Nat.zero_le _) ⟨Nat.le_refl 1, Nat.le_of_ble_eq_true rfl, fun j x hx => by cases j with | zero => simp at hx; subst hx; exact ⟨fun h => absurd h (by decide), Nat.lt_of_lt_of_le Nat.zero_lt_one (Nat.le_of_ble_eq_true rfl)⟩ | succ j => simp at hx⟩ (fun j x hx => by cases j with | zero => simp at hx; subst hx; exact ⟨hV, hqh⟩ | succ j => simp at hx)
    refine r_aload_n dX9_searches_0 rfl ?_
    refine r_get dX9_searches_1 fX9_115 rfl rfl ?_
    refine r_iconst (v := (nI 0)) dX9_searches_4 (by decide) ?_
    refine r_aload_n dX9_searches_5 rfl ?_
    refine r_get dX9_searches_6 fX9_89 rfl rfl ?_
    refine r_pc 9 rfl ?_
    refine r_aload_n dX9_searches_9 rfl ?_
    refine r_get dX9_searches_10 fX9_144 rfl rfl ?_
    refine r_lald dX9_searches_13 rfl rfl (by omega) (by decide) ?_
    refine r_topl _ hq ?_
    refine r_last (w2 := (_, mW _ _ _ _ _ _ _ _ _ _ _ _ _ _ _ _ _ _ _ _ _ _ _ _ _ _ _ _ _ _ _ _ _)) dX9_searches_14 rfl rfl (by decide) (by decide) rfl ?_
    refine r_aload_n dX9_searches_15 rfl ?_
    refine r_pc 16 rfl ?_
    refine r_get dX9_searches_16 fX9_115 rfl rfl ?_
    refine r_iconst (v := (nI 0)) dX9_searches_19 (by decide) ?_
    refine r_lald dX9_searches_20 rfl rfl (by decide) (by decide) ?_
    refine r_aload_n dX9_searches_21 rfl ?_
    refine r_get dX9_searches_22 fX9_89 rfl rfl ?_
    refine r_pc 25 rfl ?_
    refine r_iconst (v := (nI 0)) dX9_searches_25 (by decide) ?_
    refine r_lald dX9_searches_26 rfl rfl (by decide) (by decide) ?_
    refine r_lcmp dX9_searches_27 ?_
    refine r_if_ne 33 dX9_searches_28 (by decide) (fun h28 => ?_) (fun h28 => ?_)
    · refine r_pc 33 rfl ?_
      refine r_iconst (v := (nI 1)) dX9_searches_33 (by decide) ?_
      refine r_istore_n (ls' := [_, _, _, _, _, _, _, _]) dX9_searches_34 (by decide) rfl ?_
      refine r_iconst (v := (nI 0)) dX9_searches_35 (by decide) ?_
      refine r_istore_n (ls' := [_, _, _, _, _, _, _, _]) dX9_searches_36 (by decide) rfl ?_
      refine r_pc 37 rfl ?_
      exact O _ _ _ _ _ _ _ _ _ _ _ _ _ ⟨(fun j x hx => by cases j with | zero => simp at hx; subst hx; exact pk_uLs | succ j => simp at hx), (fun j x hj hx => by cases j with | zero => omega | succ j => simp at hx)⟩
    · exact absurd ((lg_cmp_eq _ _).mp h28) hz0
end R11
section D5
variable {R : List AE} {w : WD} {L : Nat} {b : Nat → Nat} {n m : Nat} {cd : Nat → Nat} {Q : Nat → Int64} {ik : Bool} {kn : Nat} {kc : Nat → Nat} {kQ : Nat → Int64} {fn : Nat} {fr : Nat → Int32} {fz : Int32} {tal : Nat → Int32}
theorem d_way_b {x : Int32} (hR : RI L b n m cd Q ik kn kc kQ fn fr fz tal R w) (h : x < -1) : SemP mX9_way 9 0 0 [.ref 100, .int x] w (Top (-1) (RI L b n m cd Q ik kn kc kQ fn fr fz tal R)) := by
  obtain ⟨rc, rf, ro, rt, ru, rm, rg, rp, rq, ry, rl, wt, rk, rx, rz, rd, rT, rR, rN, rA, rF, rC, rO, rB, rY, rP, rb, rfl, ⟨s1, s2, s3, s4, s5, s6⟩, hB, hrx, hrw, hrz, hrk, hrl, hrd⟩ := hR
  have hm : m ≤ 200 := s4.1
  have hkn : kn ≤ 200 := s5.1
  have hL : L ≤ 120 := s1
  have s3 : n ≤ m := s3
  have hn : n ≤ 200 := Nat.le_trans s3 s4.1
  have s6 : fn ≤ 8 := s6
  have hrx : ∀ j, j < m → rx j = nI (cd j) := hrx
  have hrw : ∀ j, j ≤ m → wt j = bt (Q j) := hrw
  have hrl : ∀ j, j < fn → rl j = fr j := hrl
  have hrd : ∀ j, j < 12 → rd j = tal j := hrd
  have hQn : wt n = bt (Q n) := hrw n s3
  have hVn : Vq (Q n) := s4.2.2.1 n s3
  refine semP_of (by decide) (Nat.le_of_ble_eq_true rfl) rfl ?_
  refine r_iload_n dX9_way_0 rfl ?_
  refine r_iconst (v := (-1)) dX9_way_1 (by decide) ?_
  refine r_icmp_ge 7 dX9_way_2 (by decide) (fun h2 => ?_) (fun h2 => ?_)
  · exact absurd h2 (fun z => ge_m1.mp z h)
  · refine r_pc 5 rfl ?_
    refine r_iconst (v := (-1)) dX9_way_5 (by decide) ?_
    exact r_iretP dX9_way_6 rfl ⟨rfl, _, _, _, _, _, _, _, _, _, _, _, _, _, _, _, _, _, _, _, _, _, _, _, _, _, _, _, rfl, ⟨⟨s1, s2, s3, s4, s5, s6⟩, hB, hrx, hrw, hrz, hrk, hrl, hrd⟩⟩
theorem upd_way {rY : Nat → Int32} {rest : List Nat} {p v : Nat} (hp : rest.length = p) (h : ∀ t, t < p → rY t = nI (rest.getD (p - 1 - t) 0)) : ∀ t, t < p + 1 → upd rY p (nI v) t = nI (([v] ++ rest).getD (p + 1 - 1 - t) 0) := by
  intro t ht
  by_cases e : t = p
  · subst e
    rw [pk_us, show t + 1 - 1 - t = 0 by omega]
    rfl
  · rw [pk_un e, h t (by omega), show p + 1 - 1 - t = (p - 1 - t) + 1 by omega]
    rfl
def wayI (res : Nat × List Nat) (i : Nat) : Int32 := if res.1 = 0 then (if i < res.2.length then nI (res.2.getD i 0) else -2) else wansI res
theorem d_way_m (hR : RI L b n m cd Q ik kn kc kQ fn fr fz tal R w) : SemP mX9_way 9 0 0 [.ref 100, .int (-1)] w (Top (wansI (wayB nxC homeP (Q n))) (RI L b n m cd Q ik kn kc kQ fn fr fz tal R)) := by
  obtain ⟨rc, rf, ro, rt, ru, rm, rg, rp, rq, ry, rl, wt, rk, rx, rz, rd, rT, rR, rN, rA, rF, rC, rO, rB, rY, rP, rb, rfl, ⟨s1, s2, s3, s4, s5, s6⟩, hB, hrx, hrw, hrz, hrk, hrl, hrd⟩ := hR
  have hm : m ≤ 200 := s4.1
  have hkn : kn ≤ 200 := s5.1
  have hL : L ≤ 120 := s1
  have s3 : n ≤ m := s3
  have hn : n ≤ 200 := Nat.le_trans s3 s4.1
  have s6 : fn ≤ 8 := s6
  have hrx : ∀ j, j < m → rx j = nI (cd j) := hrx
  have hrw : ∀ j, j ≤ m → wt j = bt (Q j) := hrw
  have hrl : ∀ j, j < fn → rl j = fr j := hrl
  have hrd : ∀ j, j < 12 → rd j = tal j := hrd
  have hQn : wt n = bt (Q n) := hrw n s3
  have hVn : Vq (Q n) := s4.2.2.1 n s3
  refine semP_of (by decide) (Nat.le_of_ble_eq_true rfl) rfl ?_
  have hr0 : wt 0 = bt homeP := by rw [hrw 0 (Nat.zero_le _), s4.2.2.2]
  have hs := m_searches (R := R) (rc := rc) (rf := rf) (ro := ro) (rt := rt) (ru := ru) (rm := rm) (rg := rg) (rp := rp) (rq := rq) (ry := ry) (rl := rl) (rn := nI fn) (ra := fz) (rw := wt) (rk := rk) (rx := rx) (rz := rz) (rd := rd) (rU := nI (m - n)) (rK := rkI ik kn) (rT := rT) (rR := rR) (rL := nI L) (rN := rN) (rA := rA) (rF := rF) (rC := rC) (rO := rO) (rB := rB) (rY := rY) (rP := rP) (rb := rb) hn hQn hVn hr0
  generalize hres : wayB nxC homeP (Q n) = res at hs ⊢
  generalize hw0 : (R, mW rc rf ro rt ru rm rg rp rq ry rl (nI fn) (fz) (wt) rk rx rz rd (nI n) (nI (m - n)) (rkI ik kn) rT rR (nI L) rN rA rF rC rO rB rY rP rb) = w0
  have F : ∀ (rc rf ro rt ru rm rg : Nat → Int32) (rp rq : Int32) (ry : Nat → Int32) (rC : Nat → Int64) (rO rB : Nat → Int32) (rY : Nat → Int32) (l : List Nat) (y2 : Int32) (y4 : Option Value), l.length ≤ 251 → res = (0, l) → (∀ t, t < l.length → rY t = nI (l.getD (l.length - 1 - t) 0)) → Rp mX9_way 9 0 0 w0 (Top (wansI (res)) (RI L b n m cd Q ik kn kc kQ fn fr fz tal R)) 0 0 68 [some (.ref 100), some (.int (-1)), some (.int y2), some (.int (nI l.length)), y4] [] (R, mW rc rf ro rt ru rm rg rp rq ry rl (nI fn) (fz) (wt) rk rx rz rd (nI n) (nI (m - n)) (rkI ik kn) rT rR (nI L) rN rA rF rC rO rB rY rP rb) := by
    intro rc rf ro rt ru rm rg rp rq ry rC rO rB rY l y2 y4 hl he hY
    subst he
    rw [show wansI (0, l) = nI l.length from rfl]
    refine r_iload_n dX9_way_68 rfl ?_
    refine r_if_ge 76 dX9_way_69 (by decide) (fun h69 => ?_) (fun h69 => ?_)
    · exact absurd h69 (by decide)
    · refine r_pc 72 rfl ?_
      refine r_iload_n dX9_way_72 rfl ?_
      refine r_goto 96 dX9_way_73 (by decide) ?_
      exact r_iretP dX9_way_96 rfl ⟨rfl, _, _, _, _, _, _, _, _, _, _, _, _, _, _, _, _, _, _, _, _, _, _, _, _, _, _, _, rfl, ⟨⟨s1, s2, s3, s4, s5, s6⟩, hB, hrx, hrw, hrz, hrk, hrl, hrd⟩⟩
  have Lw : ∀ (z i p : Nat) (rc rf ro rt ru rm rg : Nat → Int32) (rp rq : Int32) (ry : Nat → Int32) (rC : Nat → Int64) (rO rB : Nat → Int32) (rY : Nat → Int32) (l : BL) (k c : Nat) (rest : List Nat) (y2 : Int32), i ≤ z → i < l.length → Bs l → res = (0, pthL l 250 i ++ rest) → rest.length = p → p + i ≤ 251 → (∀ (j : Nat) (x : Int64 × Nat × Nat), 0 < j → l[j]? = some x → rO j = nI x.2.1 ∧ rB j = nI x.2.2) → (∀ t, t < p → rY t = nI (rest.getD (p - 1 - t) 0)) → Rp mX9_way 9 0 0 w0 (Top (wansI (res)) (RI L b n m cd Q ik kn kc kQ fn fr fz tal R)) 0 0 35 [some (.ref 100), some (.int (-1)), some (.int y2), some (.int (nI p)), some (.int (nI i))] [] (R, mW rc rf ro rt ru rm rg rp rq ry rl (nI fn) (fz) (wt) rk rx rz rd (nI n) (nI (m - n)) (rkI ik kn) rT rR (nI L) rN rA rF rC rO rB rY rP rb) := by
    intro z
    induction z with
    | zero =>
      intro i p rc rf ro rt ru rm rg rp rq ry rC rO rB rY l k c rest y2 hiz hil hbs he hp hpi hb hY
      have : i = 0 := by omega
      subst this
      have he : res = (0, rest) := by rw [he]; simp [pthL]
      subst hp
      have F := F rc rf ro rt ru rm rg rp rq ry rC rO rB rY rest y2 (some (.int (nI 0))) (by omega) he hY
      refine r_iload dX9_way_35 rfl ?_
      refine r_if_le 68 dX9_way_37 (by decide) (fun h37 => ?_) (fun h37 => ?_)
      · refine r_pc 68 rfl ?_
        refine r_pc 68 rfl ?_
        exact F
      · exact absurd (by decide) h37
    | succ z ih =>
      intro i p rc rf ro rt ru rm rg rp rq ry rC rO rB rY l k c rest y2 hiz hil hbs he hp hpi hb hY
      by_cases hi : i = 0
      · subst hi
        have he : res = (0, rest) := by rw [he]; simp [pthL]
        subst hp
        have F := F rc rf ro rt ru rm rg rp rq ry rC rO rB rY rest y2 (some (.int (nI 0))) (by omega) he hY
        refine r_iload dX9_way_35 rfl ?_
        refine r_if_le 68 dX9_way_37 (by decide) (fun h37 => ?_) (fun h37 => ?_)
        · refine r_pc 68 rfl ?_
          refine r_pc 68 rfl ?_
          exact F
        · exact absurd (by decide) h37
      · have hx : l[i]? = some l[i] := List.getElem?_eq_getElem hil
        have c1 := (hbs.2.2 i _ hx).1 (by omega)
        obtain ⟨b2, b3⟩ := hb i _ (by omega) hx
        have hst := pthL_step hbs (by omega) hx
        have hl := hbs.2.1
        rw [hst, List.append_assoc] at he
        have ih := ih l[i].2.1 (p + 1) rc rf ro rt ru rm rg rp rq ry rC rO rB (upd rY p (nI l[i].2.2)) l k c ([l[i].2.2] ++ rest) y2 (by omega) (by omega) hbs he (by simp; omega) (by omega) hb (upd_way hp hY)
        refine r_iload dX9_way_35 rfl ?_
        refine r_if_le 68 dX9_way_37 (by decide) (fun h37 => ?_) (fun h37 => ?_)
        · exact absurd h37 (nI_nle (by omega) (by omega))
        · refine r_pc 40 rfl ?_
          refine r_aload_n dX9_way_40 rfl ?_
          refine r_get dX9_way_41 fX9_124 rfl rfl ?_
          refine r_iload_n dX9_way_44 rfl ?_
          refine r_aload_n dX9_way_45 rfl ?_
          refine r_get dX9_way_46 fX9_121 rfl rfl ?_
          refine r_pc 49 rfl ?_
          refine r_iload dX9_way_49 rfl ?_
          refine r_iald dX9_way_51 rfl rfl (by omega) (by decide) ?_
          refine r_topi _ b3 ?_
          refine r_iast (w2 := (_, mW _ _ _ _ _ _ _ _ _ _ _ _ _ _ _ _ _ _ _ _ _ _ _ _ _ _ _ _ _ _ _ _ _)) dX9_way_52 rfl rfl (by omega) (by decide) rfl ?_
          refine r_inc1 (ls' := [_, _, _, _, _]) dX9_way_53 (by decide) rfl rfl ?_
          refine r_aload_n dX9_way_56 rfl ?_
          refine r_pc 57 rfl ?_
          refine r_get dX9_way_57 fX9_118 rfl rfl ?_
          refine r_iload dX9_way_60 rfl ?_
          refine r_iald dX9_way_62 rfl rfl (by omega) (by decide) ?_
          refine r_topi _ b2 ?_
          refine r_istore (ls' := [_, _, _, _, _]) dX9_way_63 (by decide) rfl ?_
          refine r_goto 35 dX9_way_65 (by decide) ?_
          refine r_pc 35 rfl ?_
          exact ih
  rw [← hw0]
  refine r_iload_n dX9_way_0 rfl ?_
  refine r_iconst (v := (-1)) dX9_way_1 (by decide) ?_
  refine r_pc 2 rfl ?_
  refine r_icmp_ge 7 dX9_way_2 (by decide) (fun h2 => ?_) (fun h2 => absurd (by decide) h2)
  refine r_pc 7 rfl ?_
  refine r_aload_n dX9_way_7 rfl ?_
  refine r_pc 8 rfl ?_
  refine r_cVP dX9_way_8 hs lX9_274 rfl rfl rfl (by decide) ⟨Nat.le_refl _, Nat.le_refl _⟩ (Nat.le_of_ble_eq_true rfl) (fun r w2 hp => ?_)
  obtain ⟨rc, rf, ro, rt, ru, rm, rg, rp, rq, ry, rC, rO, rB, rfl, hp⟩ := hp
  refine r_pc 11 rfl ?_
  rw [hw0]
  rcases hp with ⟨he, rfl⟩ | ⟨l, k, c, he, hbs, hkl, hb, hbO, hbB, rfl⟩ | ⟨he, rfl⟩ | ⟨he, rfl⟩
  · have F := F rc rf ro rt ru rm rg rp rq ry rC rO rB rY [] (nI 0) (some (.int (nI 0))) (Nat.zero_le _) he (fun t ht => absurd ht (Nat.not_lt_zero _))
    refine r_istore_n (ls' := [_, _, _, _, _]) dX9_way_11 (by decide) rfl ?_
    refine r_iload_n dX9_way_12 rfl ?_
    refine r_if_ge 30 dX9_way_13 (by decide) (fun h13 => ?_) (fun h13 => ?_)
    · refine r_pc 30 rfl ?_
      refine r_iconst (v := (nI 0)) dX9_way_30 (by decide) ?_
      refine r_istore_n (ls' := [_, _, _, _, _]) dX9_way_31 (by decide) rfl ?_
      refine r_iload_n dX9_way_32 rfl ?_
      refine r_istore (ls' := [_, _, _, _, _]) dX9_way_33 (by decide) rfl ?_
      refine r_iload dX9_way_35 rfl ?_
      refine r_pc 37 rfl ?_
      refine r_if_le 68 dX9_way_37 (by decide) (fun h37 => ?_) (fun h37 => ?_)
      · refine r_pc 68 rfl ?_
        refine r_pc 68 rfl ?_
        exact F
      · exact absurd (by decide) h37
    · exact absurd (by decide) h13
  · have hl := hbs.2.1
    have Lw := Lw k k 1 rc rf ro rt ru rm rg rp rq ry rC rO rB (upd rY 0 (nI c)) l k c [c] (nI l.length) (Nat.le_refl _) hkl hbs he rfl (by omega) hb (fun t ht => by
      have : t = 0 := by omega
      subst this
      rw [pk_us]
      rfl)
    have Lx : Rp mX9_way 9 0 0 w0 (Top (wansI (res)) (RI L b n m cd Q ik kn kc kQ fn fr fz tal R)) 0 0 35 [some (.ref 100), some (.int (-1)), some (.int (nI l.length)), some (.int (nI 0)), some (.int (nI l.length))] [] (R, mW rc rf ro rt ru rm rg rp rq ry rl (nI fn) (fz) (wt) rk rx rz rd (nI n) (nI (m - n)) (rkI ik kn) rT rR (nI L) rN rA rF rC rO rB rY rP rb) := by
      refine r_iload dX9_way_35 rfl ?_
      refine r_if_le 68 dX9_way_37 (by decide) (fun h37 => ?_) (fun h37 => ?_)
      · exact absurd h37 (nI_nle (by omega) (by omega))
      · refine r_pc 40 rfl ?_
        refine r_aload_n dX9_way_40 rfl ?_
        refine r_get dX9_way_41 fX9_124 rfl rfl ?_
        refine r_iload_n dX9_way_44 rfl ?_
        refine r_aload_n dX9_way_45 rfl ?_
        refine r_get dX9_way_46 fX9_121 rfl rfl ?_
        refine r_pc 49 rfl ?_
        refine r_iload dX9_way_49 rfl ?_
        refine r_iald dX9_way_51 rfl rfl (by omega) (by decide) ?_
        refine r_topi _ hbB ?_
        refine r_iast (w2 := (_, mW _ _ _ _ _ _ _ _ _ _ _ _ _ _ _ _ _ _ _ _ _ _ _ _ _ _ _ _ _ _ _ _ _)) dX9_way_52 rfl rfl (by decide) (by decide) rfl ?_
        refine r_inc1 (ls' := [_, _, _, _, _]) dX9_way_53 (by decide) rfl rfl ?_
        refine r_aload_n dX9_way_56 rfl ?_
        refine r_pc 57 rfl ?_
        refine r_get dX9_way_57 fX9_118 rfl rfl ?_
        refine r_iload dX9_way_60 rfl ?_
        refine r_iald dX9_way_62 rfl rfl (by omega) (by decide) ?_
        refine r_topi _ hbO ?_
        refine r_istore (ls' := [_, _, _, _, _]) dX9_way_63 (by decide) rfl ?_
        refine r_goto 35 dX9_way_65 (by decide) ?_
        refine r_pc 35 rfl ?_
        exact Lw
    refine r_istore_n (ls' := [_, _, _, _, _]) dX9_way_11 (by decide) rfl ?_
    refine r_iload_n dX9_way_12 rfl ?_
    refine r_if_ge 30 dX9_way_13 (by decide) (fun h13 => ?_) (fun h13 => ?_)
    · refine r_pc 30 rfl ?_
      refine r_iconst (v := (nI 0)) dX9_way_30 (by decide) ?_
      refine r_istore_n (ls' := [_, _, _, _, _]) dX9_way_31 (by decide) rfl ?_
      refine r_iload_n dX9_way_32 rfl ?_
      refine r_istore (ls' := [_, _, _, _, _]) dX9_way_33 (by decide) rfl ?_
      refine r_pc 35 rfl ?_
      exact Lx
    · exact absurd (nI_pos' (by omega)) h13
  · subst he
    refine r_istore_n (ls' := [_, _, _, _, _]) dX9_way_11 (by decide) rfl ?_
    refine r_iload_n dX9_way_12 rfl ?_
    refine r_if_ge 30 dX9_way_13 (by decide) (fun h13 => ?_) (fun h13 => ?_)
    · exact absurd h13 (by decide)
    · refine r_pc 16 rfl ?_
      refine r_iload_n dX9_way_16 rfl ?_
      refine r_bipush (v := (-7)) dX9_way_17 (by decide) ?_
      refine r_icmp_ne 27 dX9_way_19 (by decide) (fun h19 => ?_) (fun h19 => ?_)
      · exact absurd rfl h19
      · refine r_pc 22 rfl ?_
        refine r_bipush (v := (-7)) dX9_way_22 (by decide) ?_
        refine r_goto 29 dX9_way_24 (by decide) ?_
        exact r_iretP dX9_way_29 rfl ⟨rfl, _, _, _, _, _, _, _, _, _, _, _, _, _, _, _, _, _, _, _, _, _, _, _, _, _, _, _, rfl, ⟨⟨s1, s2, s3, s4, s5, s6⟩, hB, hrx, hrw, hrz, hrk, hrl, hrd⟩⟩
  · subst he
    refine r_istore_n (ls' := [_, _, _, _, _]) dX9_way_11 (by decide) rfl ?_
    refine r_iload_n dX9_way_12 rfl ?_
    refine r_if_ge 30 dX9_way_13 (by decide) (fun h13 => ?_) (fun h13 => ?_)
    · exact absurd h13 (by decide)
    · refine r_pc 16 rfl ?_
      refine r_iload_n dX9_way_16 rfl ?_
      refine r_bipush (v := (-7)) dX9_way_17 (by decide) ?_
      refine r_icmp_ne 27 dX9_way_19 (by decide) (fun h19 => ?_) (fun h19 => ?_)
      · refine r_pc 27 rfl ?_
        refine r_bipush (v := (-2)) dX9_way_27 (by decide) ?_
        exact r_iretP dX9_way_29 rfl ⟨rfl, _, _, _, _, _, _, _, _, _, _, _, _, _, _, _, _, _, _, _, _, _, _, _, _, _, _, _, rfl, ⟨⟨s1, s2, s3, s4, s5, s6⟩, hB, hrx, hrw, hrz, hrk, hrl, hrd⟩⟩
      · exact absurd h19 (by decide)

theorem d_way_i {i0 : Nat} (hR : RI L b n m cd Q ik kn kc kQ fn fr fz tal R w) (hi : i0 < 2 ^ 31) : SemP mX9_way 9 0 0 [.ref 100, .int (nI i0)] w (Top (wayI (wayB nxC homeP (Q n)) i0) (RI L b n m cd Q ik kn kc kQ fn fr fz tal R)) := by
  obtain ⟨rc, rf, ro, rt, ru, rm, rg, rp, rq, ry, rl, wt, rk, rx, rz, rd, rT, rR, rN, rA, rF, rC, rO, rB, rY, rP, rb, rfl, ⟨s1, s2, s3, s4, s5, s6⟩, hB, hrx, hrw, hrz, hrk, hrl, hrd⟩ := hR
  have hm : m ≤ 200 := s4.1
  have hkn : kn ≤ 200 := s5.1
  have hL : L ≤ 120 := s1
  have s3 : n ≤ m := s3
  have hn : n ≤ 200 := Nat.le_trans s3 s4.1
  have s6 : fn ≤ 8 := s6
  have hrx : ∀ j, j < m → rx j = nI (cd j) := hrx
  have hrw : ∀ j, j ≤ m → wt j = bt (Q j) := hrw
  have hrl : ∀ j, j < fn → rl j = fr j := hrl
  have hrd : ∀ j, j < 12 → rd j = tal j := hrd
  have hQn : wt n = bt (Q n) := hrw n s3
  have hVn : Vq (Q n) := s4.2.2.1 n s3
  refine semP_of (by decide) (Nat.le_of_ble_eq_true rfl) rfl ?_
  have hr0 : wt 0 = bt homeP := by rw [hrw 0 (Nat.zero_le _), s4.2.2.2]
  have hs := m_searches (R := R) (rc := rc) (rf := rf) (ro := ro) (rt := rt) (ru := ru) (rm := rm) (rg := rg) (rp := rp) (rq := rq) (ry := ry) (rl := rl) (rn := nI fn) (ra := fz) (rw := wt) (rk := rk) (rx := rx) (rz := rz) (rd := rd) (rU := nI (m - n)) (rK := rkI ik kn) (rT := rT) (rR := rR) (rL := nI L) (rN := rN) (rA := rA) (rF := rF) (rC := rC) (rO := rO) (rB := rB) (rY := rY) (rP := rP) (rb := rb) hn hQn hVn hr0
  generalize hres : wayB nxC homeP (Q n) = res at hs ⊢
  generalize hw0 : (R, mW rc rf ro rt ru rm rg rp rq ry rl (nI fn) (fz) (wt) rk rx rz rd (nI n) (nI (m - n)) (rkI ik kn) rT rR (nI L) rN rA rF rC rO rB rY rP rb) = w0
  have F : ∀ (rc rf ro rt ru rm rg : Nat → Int32) (rp rq : Int32) (ry : Nat → Int32) (rC : Nat → Int64) (rO rB : Nat → Int32) (rY : Nat → Int32) (l : List Nat) (y2 : Int32) (y4 : Option Value), l.length ≤ 251 → res = (0, l) → (∀ t, t < l.length → rY t = nI (l.getD (l.length - 1 - t) 0)) → Rp mX9_way 9 0 0 w0 (Top (wayI (res) i0) (RI L b n m cd Q ik kn kc kQ fn fr fz tal R)) 0 0 68 [some (.ref 100), some (.int (nI i0)), some (.int y2), some (.int (nI l.length)), y4] [] (R, mW rc rf ro rt ru rm rg rp rq ry rl (nI fn) (fz) (wt) rk rx rz rd (nI n) (nI (m - n)) (rkI ik kn) rT rR (nI L) rN rA rF rC rO rB rY rP rb) := by
    intro rc rf ro rt ru rm rg rp rq ry rC rO rB rY l y2 y4 hl he hY
    subst he
    by_cases hil : i0 < l.length
    · have hy := hY (l.length - 1 - i0) (by omega)
      rw [show l.length - 1 - (l.length - 1 - i0) = i0 by omega] at hy
      rw [show wayI (0, l) i0 = nI (l.getD i0 0) by unfold wayI; rw [if_pos rfl, if_pos hil]]
      refine r_iload_n dX9_way_68 rfl ?_
      refine r_if_ge 76 dX9_way_69 (by decide) (fun h69 => ?_) (fun h69 => ?_)
      · refine r_pc 76 rfl ?_
        refine r_iload_n dX9_way_76 rfl ?_
        refine r_iload_n dX9_way_77 rfl ?_
        refine r_icmp_geN 94 dX9_way_78 (by decide) (by omega) (by omega) (fun h78 => ?_) (fun h78 => ?_)
        · exact absurd h78 (by omega)
        · refine r_pc 81 rfl ?_
          refine r_aload_n dX9_way_81 rfl ?_
          refine r_get dX9_way_82 fX9_124 rfl rfl ?_
          refine r_iload_n dX9_way_85 rfl ?_
          refine r_iconst (v := (nI 1)) dX9_way_86 (by decide) ?_
          refine r_isubN dX9_way_87 (by omega) ?_
          refine r_pc 88 rfl ?_
          refine r_iload_n dX9_way_88 rfl ?_
          refine r_isubN dX9_way_89 (by omega) ?_
          refine r_iald dX9_way_90 rfl rfl (by omega) (by decide) ?_
          refine r_topi _ hy ?_
          refine r_goto 96 dX9_way_91 (by decide) ?_
          exact r_iretP dX9_way_96 rfl ⟨rfl, _, _, _, _, _, _, _, _, _, _, _, _, _, _, _, _, _, _, _, _, _, _, _, _, _, _, _, rfl, ⟨⟨s1, s2, s3, s4, s5, s6⟩, hB, hrx, hrw, hrz, hrk, hrl, hrd⟩⟩
      · exact absurd (nI_pos' (by omega)) h69
    · rw [show wayI (0, l) i0 = -2 by unfold wayI; rw [if_pos rfl, if_neg hil]]
      refine r_iload_n dX9_way_68 rfl ?_
      refine r_if_ge 76 dX9_way_69 (by decide) (fun h69 => ?_) (fun h69 => ?_)
      · refine r_pc 76 rfl ?_
        refine r_iload_n dX9_way_76 rfl ?_
        refine r_iload_n dX9_way_77 rfl ?_
        refine r_icmp_geN 94 dX9_way_78 (by decide) (by omega) (by omega) (fun h78 => ?_) (fun h78 => ?_)
        · refine r_pc 94 rfl ?_
          refine r_bipush (v := (-2)) dX9_way_94 (by decide) ?_
          exact r_iretP dX9_way_96 rfl ⟨rfl, _, _, _, _, _, _, _, _, _, _, _, _, _, _, _, _, _, _, _, _, _, _, _, _, _, _, _, rfl, ⟨⟨s1, s2, s3, s4, s5, s6⟩, hB, hrx, hrw, hrz, hrk, hrl, hrd⟩⟩
        · exact absurd h78 hil
      · exact absurd (nI_pos' (by omega)) h69
  have Lw : ∀ (z i p : Nat) (rc rf ro rt ru rm rg : Nat → Int32) (rp rq : Int32) (ry : Nat → Int32) (rC : Nat → Int64) (rO rB : Nat → Int32) (rY : Nat → Int32) (l : BL) (k c : Nat) (rest : List Nat) (y2 : Int32), i ≤ z → i < l.length → Bs l → res = (0, pthL l 250 i ++ rest) → rest.length = p → p + i ≤ 251 → (∀ (j : Nat) (x : Int64 × Nat × Nat), 0 < j → l[j]? = some x → rO j = nI x.2.1 ∧ rB j = nI x.2.2) → (∀ t, t < p → rY t = nI (rest.getD (p - 1 - t) 0)) → Rp mX9_way 9 0 0 w0 (Top (wayI (res) i0) (RI L b n m cd Q ik kn kc kQ fn fr fz tal R)) 0 0 35 [some (.ref 100), some (.int (nI i0)), some (.int y2), some (.int (nI p)), some (.int (nI i))] [] (R, mW rc rf ro rt ru rm rg rp rq ry rl (nI fn) (fz) (wt) rk rx rz rd (nI n) (nI (m - n)) (rkI ik kn) rT rR (nI L) rN rA rF rC rO rB rY rP rb) := by
    intro z
    induction z with
    | zero =>
      intro i p rc rf ro rt ru rm rg rp rq ry rC rO rB rY l k c rest y2 hiz hil hbs he hp hpi hb hY
      have : i = 0 := by omega
      subst this
      have he : res = (0, rest) := by rw [he]; simp [pthL]
      subst hp
      have F := F rc rf ro rt ru rm rg rp rq ry rC rO rB rY rest y2 (some (.int (nI 0))) (by omega) he hY
      refine r_iload dX9_way_35 rfl ?_
      refine r_if_le 68 dX9_way_37 (by decide) (fun h37 => ?_) (fun h37 => ?_)
      · refine r_pc 68 rfl ?_
        refine r_pc 68 rfl ?_
        exact F
      · exact absurd (by decide) h37
    | succ z ih =>
      intro i p rc rf ro rt ru rm rg rp rq ry rC rO rB rY l k c rest y2 hiz hil hbs he hp hpi hb hY
      by_cases hi : i = 0
      · subst hi
        have he : res = (0, rest) := by rw [he]; simp [pthL]
        subst hp
        have F := F rc rf ro rt ru rm rg rp rq ry rC rO rB rY rest y2 (some (.int (nI 0))) (by omega) he hY
        refine r_iload dX9_way_35 rfl ?_
        refine r_if_le 68 dX9_way_37 (by decide) (fun h37 => ?_) (fun h37 => ?_)
        · refine r_pc 68 rfl ?_
          refine r_pc 68 rfl ?_
          exact F
        · exact absurd (by decide) h37
      · have hx : l[i]? = some l[i] := List.getElem?_eq_getElem hil
        have c1 := (hbs.2.2 i _ hx).1 (by omega)
        obtain ⟨b2, b3⟩ := hb i _ (by omega) hx
        have hst := pthL_step hbs (by omega) hx
        have hl := hbs.2.1
        rw [hst, List.append_assoc] at he
        have ih := ih l[i].2.1 (p + 1) rc rf ro rt ru rm rg rp rq ry rC rO rB (upd rY p (nI l[i].2.2)) l k c ([l[i].2.2] ++ rest) y2 (by omega) (by omega) hbs he (by simp; omega) (by omega) hb (upd_way hp hY)
        refine r_iload dX9_way_35 rfl ?_
        refine r_if_le 68 dX9_way_37 (by decide) (fun h37 => ?_) (fun h37 => ?_)
        · exact absurd h37 (nI_nle (by omega) (by omega))
        · refine r_pc 40 rfl ?_
          refine r_aload_n dX9_way_40 rfl ?_
          refine r_get dX9_way_41 fX9_124 rfl rfl ?_
          refine r_iload_n dX9_way_44 rfl ?_
          refine r_aload_n dX9_way_45 rfl ?_
          refine r_get dX9_way_46 fX9_121 rfl rfl ?_
          refine r_pc 49 rfl ?_
          refine r_iload dX9_way_49 rfl ?_
          refine r_iald dX9_way_51 rfl rfl (by omega) (by decide) ?_
          refine r_topi _ b3 ?_
          refine r_iast (w2 := (_, mW _ _ _ _ _ _ _ _ _ _ _ _ _ _ _ _ _ _ _ _ _ _ _ _ _ _ _ _ _ _ _ _ _)) dX9_way_52 rfl rfl (by omega) (by decide) rfl ?_
          refine r_inc1 (ls' := [_, _, _, _, _]) dX9_way_53 (by decide) rfl rfl ?_
          refine r_aload_n dX9_way_56 rfl ?_
          refine r_pc 57 rfl ?_
          refine r_get dX9_way_57 fX9_118 rfl rfl ?_
          refine r_iload dX9_way_60 rfl ?_
          refine r_iald dX9_way_62 rfl rfl (by omega) (by decide) ?_
          refine r_topi _ b2 ?_
          refine r_istore (ls' := [_, _, _, _, _]) dX9_way_63 (by decide) rfl ?_
          refine r_goto 35 dX9_way_65 (by decide) ?_
          refine r_pc 35 rfl ?_
          exact ih
  rw [← hw0]
  refine r_iload_n dX9_way_0 rfl ?_
  refine r_iconst (v := (-1)) dX9_way_1 (by decide) ?_
  refine r_pc 2 rfl ?_
  refine r_icmp_ge 7 dX9_way_2 (by decide) (fun h2 => ?_) (fun h2 => absurd (ge_m1.mpr (nI_ge_m1 _ (by omega))) h2)
  refine r_pc 7 rfl ?_
  refine r_aload_n dX9_way_7 rfl ?_
  refine r_pc 8 rfl ?_
  refine r_cVP dX9_way_8 hs lX9_274 rfl rfl rfl (by decide) ⟨Nat.le_refl _, Nat.le_refl _⟩ (Nat.le_of_ble_eq_true rfl) (fun r w2 hp => ?_)
  obtain ⟨rc, rf, ro, rt, ru, rm, rg, rp, rq, ry, rC, rO, rB, rfl, hp⟩ := hp
  refine r_pc 11 rfl ?_
  rw [hw0]
  rcases hp with ⟨he, rfl⟩ | ⟨l, k, c, he, hbs, hkl, hb, hbO, hbB, rfl⟩ | ⟨he, rfl⟩ | ⟨he, rfl⟩
  · have F := F rc rf ro rt ru rm rg rp rq ry rC rO rB rY [] (nI 0) (some (.int (nI 0))) (Nat.zero_le _) he (fun t ht => absurd ht (Nat.not_lt_zero _))
    refine r_istore_n (ls' := [_, _, _, _, _]) dX9_way_11 (by decide) rfl ?_
    refine r_iload_n dX9_way_12 rfl ?_
    refine r_if_ge 30 dX9_way_13 (by decide) (fun h13 => ?_) (fun h13 => ?_)
    · refine r_pc 30 rfl ?_
      refine r_iconst (v := (nI 0)) dX9_way_30 (by decide) ?_
      refine r_istore_n (ls' := [_, _, _, _, _]) dX9_way_31 (by decide) rfl ?_
      refine r_iload_n dX9_way_32 rfl ?_
      refine r_istore (ls' := [_, _, _, _, _]) dX9_way_33 (by decide) rfl ?_
      refine r_iload dX9_way_35 rfl ?_
      refine r_pc 37 rfl ?_
      refine r_if_le 68 dX9_way_37 (by decide) (fun h37 => ?_) (fun h37 => ?_)
      · refine r_pc 68 rfl ?_
        refine r_pc 68 rfl ?_
        exact F
      · exact absurd (by decide) h37
    · exact absurd (by decide) h13
  · have hl := hbs.2.1
    have Lw := Lw k k 1 rc rf ro rt ru rm rg rp rq ry rC rO rB (upd rY 0 (nI c)) l k c [c] (nI l.length) (Nat.le_refl _) hkl hbs he rfl (by omega) hb (fun t ht => by
      have : t = 0 := by omega
      subst this
      rw [pk_us]
      rfl)
    have Lx : Rp mX9_way 9 0 0 w0 (Top (wayI (res) i0) (RI L b n m cd Q ik kn kc kQ fn fr fz tal R)) 0 0 35 [some (.ref 100), some (.int (nI i0)), some (.int (nI l.length)), some (.int (nI 0)), some (.int (nI l.length))] [] (R, mW rc rf ro rt ru rm rg rp rq ry rl (nI fn) (fz) (wt) rk rx rz rd (nI n) (nI (m - n)) (rkI ik kn) rT rR (nI L) rN rA rF rC rO rB rY rP rb) := by
      refine r_iload dX9_way_35 rfl ?_
      refine r_if_le 68 dX9_way_37 (by decide) (fun h37 => ?_) (fun h37 => ?_)
      · exact absurd h37 (nI_nle (by omega) (by omega))
      · refine r_pc 40 rfl ?_
        refine r_aload_n dX9_way_40 rfl ?_
        refine r_get dX9_way_41 fX9_124 rfl rfl ?_
        refine r_iload_n dX9_way_44 rfl ?_
        refine r_aload_n dX9_way_45 rfl ?_
        refine r_get dX9_way_46 fX9_121 rfl rfl ?_
        refine r_pc 49 rfl ?_
        refine r_iload dX9_way_49 rfl ?_
        refine r_iald dX9_way_51 rfl rfl (by omega) (by decide) ?_
        refine r_topi _ hbB ?_
        refine r_iast (w2 := (_, mW _ _ _ _ _ _ _ _ _ _ _ _ _ _ _ _ _ _ _ _ _ _ _ _ _ _ _ _ _ _ _ _ _)) dX9_way_52 rfl rfl (by decide) (by decide) rfl ?_
        refine r_inc1 (ls' := [_, _, _, _, _]) dX9_way_53 (by decide) rfl rfl ?_
        refine r_aload_n dX9_way_56 rfl ?_
        refine r_pc 57 rfl ?_
        refine r_get dX9_way_57 fX9_118 rfl rfl ?_
        refine r_iload dX9_way_60 rfl ?_
        refine r_iald dX9_way_62 rfl rfl (by omega) (by decide) ?_
        refine r_topi _ hbO ?_
        refine r_istore (ls' := [_, _, _, _, _]) dX9_way_63 (by decide) rfl ?_
        refine r_goto 35 dX9_way_65 (by decide) ?_
        refine r_pc 35 rfl ?_
        exact Lw
    refine r_istore_n (ls' := [_, _, _, _, _]) dX9_way_11 (by decide) rfl ?_
    refine r_iload_n dX9_way_12 rfl ?_
    refine r_if_ge 30 dX9_way_13 (by decide) (fun h13 => ?_) (fun h13 => ?_)
    · refine r_pc 30 rfl ?_
      refine r_iconst (v := (nI 0)) dX9_way_30 (by decide) ?_
      refine r_istore_n (ls' := [_, _, _, _, _]) dX9_way_31 (by decide) rfl ?_
      refine r_iload_n dX9_way_32 rfl ?_
      refine r_istore (ls' := [_, _, _, _, _]) dX9_way_33 (by decide) rfl ?_
      refine r_pc 35 rfl ?_
      exact Lx
    · exact absurd (nI_pos' (by omega)) h13
  · subst he
    refine r_istore_n (ls' := [_, _, _, _, _]) dX9_way_11 (by decide) rfl ?_
    refine r_iload_n dX9_way_12 rfl ?_
    refine r_if_ge 30 dX9_way_13 (by decide) (fun h13 => ?_) (fun h13 => ?_)
    · exact absurd h13 (by decide)
    · refine r_pc 16 rfl ?_
      refine r_iload_n dX9_way_16 rfl ?_
      refine r_bipush (v := (-7)) dX9_way_17 (by decide) ?_
      refine r_icmp_ne 27 dX9_way_19 (by decide) (fun h19 => ?_) (fun h19 => ?_)
      · exact absurd rfl h19
      · refine r_pc 22 rfl ?_
        refine r_bipush (v := (-7)) dX9_way_22 (by decide) ?_
        refine r_goto 29 dX9_way_24 (by decide) ?_
        exact r_iretP dX9_way_29 rfl ⟨rfl, _, _, _, _, _, _, _, _, _, _, _, _, _, _, _, _, _, _, _, _, _, _, _, _, _, _, _, rfl, ⟨⟨s1, s2, s3, s4, s5, s6⟩, hB, hrx, hrw, hrz, hrk, hrl, hrd⟩⟩
  · subst he
    refine r_istore_n (ls' := [_, _, _, _, _]) dX9_way_11 (by decide) rfl ?_
    refine r_iload_n dX9_way_12 rfl ?_
    refine r_if_ge 30 dX9_way_13 (by decide) (fun h13 => ?_) (fun h13 => ?_)
    · exact absurd h13 (by decide)
    · refine r_pc 16 rfl ?_
      refine r_iload_n dX9_way_16 rfl ?_
      refine r_bipush (v := (-7)) dX9_way_17 (by decide) ?_
      refine r_icmp_ne 27 dX9_way_19 (by decide) (fun h19 => ?_) (fun h19 => ?_)
      · refine r_pc 27 rfl ?_
        refine r_bipush (v := (-2)) dX9_way_27 (by decide) ?_
        exact r_iretP dX9_way_29 rfl ⟨rfl, _, _, _, _, _, _, _, _, _, _, _, _, _, _, _, _, _, _, _, _, _, _, _, _, _, _, _, rfl, ⟨⟨s1, s2, s3, s4, s5, s6⟩, hB, hrx, hrw, hrz, hrk, hrl, hrd⟩⟩
      · exact absurd h19 (by decide)

end D5
