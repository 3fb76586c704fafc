/-! ===== the object's state, as both sides show it; the class shows it so ===== -/
def Vq (q : Int64) : Prop := Inj (sqc q) ∧ q = pkI (fun j => nI (sqc q j)) (fun j => nI (sqf q j)) 8
/-- a square stays one by every call that doesn't fall -/
def NXV : Prop := ∀ q c q', Vq q → c < 108 → nxC q c = some q' → Vq q'
/-- the calls and squares of a dance: n calls, numbers cd, squares Q 0 .. Q n -/
def Dn (n : Nat) (cd : Nat → Nat) (Q : Nat → Int64) : Prop := n ≤ 200 ∧ (∀ j, j < n → cd j / 100 < 9 ∧ cd j % 100 < 12) ∧ (∀ j, j ≤ n → Vq (Q j)) ∧ Q 0 = homeP
def WayOk (ws : Int64) (wa : Int32) (wc : Nat → Int32) : Prop := wa = wansI (wayB nxC homeP ws) ∧ (wayB nxC homeP ws).2.length ≤ 250 ∧ ((wayB nxC homeP ws).1 = 0 → ∀ j x, (wayB nxC homeP ws).2[j]? = some x → wc j = nI x)
/-- the state: tape (length, bytes); dance (calls, calls with undone, numbers, squares); image (is there one, calls, numbers, squares); falls (how many, rows, 4 or 5); tally -/
def SI (L : Nat) (b : Nat → Nat) (n m : Nat) (cd : Nat → Nat) (Q : Nat → Int64) (kn : Nat) (kc : Nat → Nat) (kQ : Nat → Int64) (fn : Nat) : Prop := L ≤ 120 ∧ (∀ j, j < L → b j < 128) ∧ n ≤ m ∧ Dn m cd Q ∧ Dn kn kc kQ ∧ fn ≤ 8
def CI (L : Nat) (b : Nat → Nat) (n m : Nat) (cd : Nat → Nat) (Q : Nat → Int64) (ik : Bool) (kn : Nat) (kc : Nat → Nat) (kQ : Nat → Int64) (fn : Nat) (fr : Nat → Int32) (fz : Int32) (tal : Nat → Int32) (R : List AE) (w : WD) : Prop := ∃ (tb tc : Nat → Int32) (tn : Int32) (fc ff fs ft fu fw : Nat → Int32) (fy fd : Int32) (dc : Nat → Int32) (dp dq : Nat → Int64) (ec : Nat → Int32) (ep eq : Nat → Int64) (em : Int32) (lr : Nat → Int32) (wr : Nat → Int64) (wf wb : Nat → Int32) (wn : Int32) (gz : G8) (wc : Nat → Int32) (ws : Int64) (wa pw pf pl : Int32) (ta : Nat → Int32),
  w = (cW tb (nI L) tc tn fc ff fs ft fu fw fy fd dc dp dq (nI n) (nI m) ec ep eq (nI kn) em (bI ik) lr (nI fn) (fz) (homeP) wr wf wb wn gz wc ws wa pw pf pl ta, R) ∧
  SI L b n m cd Q kn kc kQ fn ∧ (∀ j, j < L → tb j = nI (b j)) ∧ (∀ j, j < m → dc j = nI (cd j)) ∧ (∀ j, j ≤ m → dp j = Q j) ∧ (∀ j, j < kn → ec j = nI (kc j)) ∧ (∀ j, j ≤ kn → ep j = kQ j) ∧ (∀ j, j < fn → lr j = fr j) ∧ (∀ j, j < 12 → ta j = tal j) ∧ WayOk ws wa wc
/-- an answer, and the state behind it -/
def Top (a : Int32) (P : WD → Prop) : Option Value → WD → Prop := fun r w => r = some (.int a) ∧ P w
section C1
variable {R : List AE} {w : WD} {L : Nat} {b : Nat → Nat} {n m : Nat} {cd : Nat → Nat} {Q : Nat → Int64} {ik : Bool} {kn : Nat} {kc : Nat → Nat} {kQ : Nat → Int64} {fn : Nat} {fr : Nat → Int32} {fz : Int32} {tal : Nat → Int32}
def stN (o : Option Nat) : Int32 := match o with
  | none => -2
  | some d => nI d
theorem s_orNot (w : WD) {o : Option Nat} (ho : ∀ e, o = some e → e < 2 ^ 31) : Sem mX8_orNot 1 0 0 [.int (stI o)] w (some (.int (stN o))) w := by
  refine sem_of (by decide) (Nat.le_of_ble_eq_true rfl) rfl ?_
  cases o with
  | none =>
    refine r_iload_n dX8_orNot_0 rfl ?_
    refine r_iconst (v := (-1)) dX8_orNot_1 (by decide) ?_
    refine r_icmp_ne 10 dX8_orNot_2 (by decide) (fun h2 => ?_) (fun h2 => ?_)
    · exact absurd rfl h2
    · refine r_pc 5 rfl ?_
      refine r_bipush (v := (-2)) dX8_orNot_5 (by decide) ?_
      refine r_goto 11 dX8_orNot_7 (by decide) ?_
      exact r_iret dX8_orNot_11 rfl rfl rfl
  | some e =>
    refine r_iload_n dX8_orNot_0 rfl ?_
    refine r_iconst (v := (-1)) dX8_orNot_1 (by decide) ?_
    refine r_icmp_ne 10 dX8_orNot_2 (by decide) (fun h2 => ?_) (fun h2 => ?_)
    · refine r_pc 10 rfl ?_
      refine r_iload_n dX8_orNot_10 rfl ?_
      exact r_iret dX8_orNot_11 rfl rfl rfl
    · exact absurd h2 (nI_m1 (ho e rfl))
theorem c_feed0 {x : Int32} (hC : CI L b n m cd Q ik kn kc kQ fn fr fz tal R w) (hx : x < nI 32 ∨ nI 126 < x) : SemP mX8_feed 3 0 0 [.ref 0, .int x] w (Top (-1) (CI L b n m cd Q ik kn kc kQ fn fr fz tal R)) := by
  refine semP_of (by decide) (Nat.le_of_ble_eq_true rfl) rfl ?_
  refine r_iload_n dX8_feed_0 rfl ?_
  refine r_bipush (v := (nI 32)) dX8_feed_1 (by decide) ?_
  refine r_icmp_lt 12 dX8_feed_3 (by decide) (fun h3 => ?_) (fun h3 => ?_)
  · refine r_pc 12 rfl ?_
    refine r_iconst (v := (-1)) dX8_feed_12 (by decide) ?_
    exact r_iretP dX8_feed_13 rfl ⟨rfl, hC⟩
  · refine r_pc 6 rfl ?_
    refine r_iload_n dX8_feed_6 rfl ?_
    refine r_bipush (v := (nI 126)) dX8_feed_7 (by decide) ?_
    refine r_icmp_le 14 dX8_feed_9 (by decide) (fun h9 => ?_) (fun h9 => ?_)
    · exact absurd hx (fun z => z.elim h3 (Int32.not_lt.mpr h9))
    · refine r_pc 12 rfl ?_
      refine r_iconst (v := (-1)) dX8_feed_12 (by decide) ?_
      exact r_iretP dX8_feed_13 rfl ⟨rfl, hC⟩
theorem c_feed1 {v : Nat} (hC : CI 120 b n m cd Q ik kn kc kQ fn fr fz tal R w) (h1 : 32 ≤ v) (h2 : v ≤ 126) : SemP mX8_feed 3 0 0 [.ref 0, .int (nI v)] w (Top (-3) (CI 120 b n m cd Q ik kn kc kQ fn fr fz tal R)) := by
  obtain ⟨tb, tc, tn, fc, ff, fs, ft, fu, fw, fy, fd, dc, dp, dq, ec, ep, eq, em, lr, wr, wf, wb, wn, gz, wc, ws, wa, pw, pf, pl, ta, rfl, hrest⟩ := hC
  refine semP_of (by decide) (Nat.le_of_ble_eq_true rfl) rfl ?_
  refine r_iload_n dX8_feed_0 rfl ?_
  refine r_bipush (v := (nI 32)) dX8_feed_1 (by decide) ?_
  refine r_icmp_ltN 12 dX8_feed_3 (by decide) (by omega) (by omega) (fun h3 => ?_) (fun h3 => ?_)
  · exact absurd h3 (by omega)
  · refine r_pc 6 rfl ?_
    refine r_iload_n dX8_feed_6 rfl ?_
    refine r_bipush (v := (nI 126)) dX8_feed_7 (by decide) ?_
    refine r_icmp_leN 14 dX8_feed_9 (by decide) (by omega) (by omega) (fun h9 => ?_) (fun h9 => ?_)
    · refine r_pc 14 rfl ?_
      refine r_aload_n dX8_feed_14 rfl ?_
      refine r_get dX8_feed_15 fX8_12 rfl rfl ?_
      refine r_iload_n dX8_feed_18 rfl ?_
      refine r_cV dX8_feed_19 s_put0 lX8_62 rfl rfl rfl (by decide) ⟨Nat.le_refl _, Nat.le_refl _⟩ (Nat.le_of_ble_eq_true rfl) ?_
      refine r_if_eq 35 dX8_feed_22 (by decide) (fun h22 => ?_) (fun h22 => ?_)
      · refine r_pc 35 rfl ?_
        refine r_bipush (v := (-3)) dX8_feed_35 (by decide) ?_
        exact r_iretP dX8_feed_37 rfl ⟨rfl, tb, tc, tn, fc, ff, fs, ft, fu, fw, fy, fd, dc, dp, dq, ec, ep, eq, em, lr, wr, wf, wb, wn, gz, wc, ws, wa, pw, pf, pl, ta, rfl, hrest⟩
      · exact absurd rfl h22
    · exact absurd h9 (by omega)
theorem c_feed2 {v : Nat} (hC : CI L b n m cd Q ik kn kc kQ fn fr fz tal R w) (h1 : 32 ≤ v) (h2 : v ≤ 126) (hL : L < 120) : SemP mX8_feed 3 0 0 [.ref 0, .int (nI v)] w (Top (nI (L + 1)) (CI (L + 1) (up b L v) n m cd Q ik kn kc kQ fn fr fz tal R)) := by
  obtain ⟨tb, tc, tn, fc, ff, fs, ft, fu, fw, fy, fd, dc, dp, dq, ec, ep, eq, em, lr, wr, wf, wb, wn, gz, wc, ws, wa, pw, pf, pl, ta, rfl, hS, hB, hrest⟩ := hC
  refine semP_of (by decide) (Nat.le_of_ble_eq_true rfl) rfl ?_
  have hS' : SI (L + 1) (up b L v) n m cd Q kn kc kQ fn := ⟨by omega, fun j hj => by
    show up b L v j < 128
    unfold up
    split
    · omega
    · exact hS.2.1 j (by omega), hS.2.2⟩
  have hB' : ∀ j, j < L + 1 → upd tb L (nI v) j = nI (up b L v j) := by
    intro j hj
    by_cases e : j = L
    · subst e; rw [pk_us]; simp [up]
    · rw [pk_un e]; simp only [up, if_neg e]; exact hB j (by omega)
  refine r_iload_n dX8_feed_0 rfl ?_
  refine r_bipush (v := (nI 32)) dX8_feed_1 (by decide) ?_
  refine r_icmp_ltN 12 dX8_feed_3 (by decide) (by omega) (by omega) (fun h3 => ?_) (fun h3 => ?_)
  · exact absurd h3 (by omega)
  · refine r_pc 6 rfl ?_
    refine r_iload_n dX8_feed_6 rfl ?_
    refine r_bipush (v := (nI 126)) dX8_feed_7 (by decide) ?_
    refine r_icmp_leN 14 dX8_feed_9 (by decide) (by omega) (by omega) (fun h9 => ?_) (fun h9 => ?_)
    · refine r_pc 14 rfl ?_
      refine r_aload_n dX8_feed_14 rfl ?_
      refine r_get dX8_feed_15 fX8_12 rfl rfl ?_
      refine r_iload_n dX8_feed_18 rfl ?_
      refine r_cV dX8_feed_19 (s_put1 hL) lX8_62 rfl rfl rfl (by decide) ⟨Nat.le_refl _, Nat.le_refl _⟩ (Nat.le_of_ble_eq_true rfl) ?_
      refine r_if_eq 35 dX8_feed_22 (by decide) (fun h22 => ?_) (fun h22 => ?_)
      · exact absurd h22 (by decide)
      · refine r_pc 25 rfl ?_
        refine r_aload_n dX8_feed_25 rfl ?_
        refine r_get dX8_feed_26 fX8_12 rfl rfl ?_
        refine r_get dX8_feed_29 fX8_66 rfl rfl ?_
        refine r_goto 37 dX8_feed_32 (by decide) ?_
        exact r_iretP dX8_feed_37 rfl ⟨rfl, _, tc, tn, fc, ff, fs, ft, fu, fw, fy, fd, dc, dp, dq, ec, ep, eq, em, lr, wr, wf, wb, wn, gz, wc, ws, wa, pw, pf, pl, ta, rfl, hS', hB', hrest⟩
    · exact absurd h9 (by omega)
theorem c_undo0 (hC : CI L b 0 m cd Q ik kn kc kQ fn fr fz tal R w) : SemP mX8_undo 3 0 0 [.ref 0] w (Top (-5) (CI L b 0 m cd Q ik kn kc kQ fn fr fz tal R)) := by
  obtain ⟨tb, tc, tn, fc, ff, fs, ft, fu, fw, fy, fd, dc, dp, dq, ec, ep, eq, em, lr, wr, wf, wb, wn, gz, wc, ws, wa, pw, pf, pl, ta, rfl, hrest⟩ := hC
  refine semP_of (by decide) (Nat.le_of_ble_eq_true rfl) rfl ?_
  refine r_aload_n dX8_undo_0 rfl ?_
  refine r_get dX8_undo_1 fX8_26 rfl rfl ?_
  refine r_cV dX8_undo_4 s_stepBack0 lX8_126 rfl rfl rfl (by decide) ⟨Nat.le_refl _, Nat.le_refl _⟩ (Nat.le_of_ble_eq_true rfl) ?_
  refine r_if_eq 20 dX8_undo_7 (by decide) (fun h7 => ?_) (fun h7 => ?_)
  · refine r_pc 20 rfl ?_
    refine r_bipush (v := (-5)) dX8_undo_20 (by decide) ?_
    exact r_iretP dX8_undo_22 rfl ⟨rfl, tb, tc, tn, fc, ff, fs, ft, fu, fw, fy, fd, dc, dp, dq, ec, ep, eq, em, lr, wr, wf, wb, wn, gz, wc, ws, wa, pw, pf, pl, ta, rfl, hrest⟩
  · exact absurd rfl h7
theorem c_undo1 (hC : CI L b (n + 1) m cd Q ik kn kc kQ fn fr fz tal R w) : SemP mX8_undo 3 0 0 [.ref 0] w (Top (nI n) (CI L b n m cd Q ik kn kc kQ fn fr fz tal R)) := by
  obtain ⟨tb, tc, tn, fc, ff, fs, ft, fu, fw, fy, fd, dc, dp, dq, ec, ep, eq, em, lr, wr, wf, wb, wn, gz, wc, ws, wa, pw, pf, pl, ta, rfl, ⟨s1, s2, s3, s4, s5⟩, hrest⟩ := hC
  have hm : m ≤ 200 := s4.1
  have s3 : n + 1 ≤ m := s3
  refine semP_of (by decide) (Nat.le_of_ble_eq_true rfl) rfl ?_
  refine r_aload_n dX8_undo_0 rfl ?_
  refine r_get dX8_undo_1 fX8_26 rfl rfl ?_
  refine r_cV dX8_undo_4 (s_stepBack1 (n := n) (by omega)) lX8_126 rfl rfl rfl (by decide) ⟨Nat.le_refl _, Nat.le_refl _⟩ (Nat.le_of_ble_eq_true rfl) ?_
  refine r_if_eq 20 dX8_undo_7 (by decide) (fun h7 => ?_) (fun h7 => ?_)
  · exact absurd h7 (by decide)
  · refine r_pc 10 rfl ?_
    refine r_aload_n dX8_undo_10 rfl ?_
    refine r_get dX8_undo_11 fX8_26 rfl rfl ?_
    refine r_get dX8_undo_14 fX8_74 rfl rfl ?_
    refine r_goto 22 dX8_undo_17 (by decide) ?_
    exact r_iretP dX8_undo_22 rfl ⟨rfl, tb, tc, tn, fc, ff, fs, ft, fu, fw, fy, fd, dc, dp, dq, ec, ep, eq, em, lr, wr, wf, wb, wn, gz, wc, ws, wa, pw, pf, pl, ta, rfl, ⟨s1, s2, Nat.le_of_succ_le s3, s4, s5⟩, hrest⟩
end C1
section C2
variable {tb : Nat → Int32} {tl : Int32} {tc : Nat → Int32} {tn : Int32} {fc ff fs ft fu fw : Nat → Int32} {fy fd : Int32} {dc : Nat → Int32} {dp dq : Nat → Int64} {dn dm : Int32} {ec : Nat → Int32} {ep eq : Nat → Int64} {en em ik : Int32} {lr : Nat → Int32} {ln ly : Int32} {wh : Int64} {wr : Nat → Int64} {wf wb : Nat → Int32} {wn : Int32} {gz : G8} {wc : Nat → Int32} {ws : Int64} {wa pw pf pl : Int32} {ta : Nat → Int32}
variable {R : List AE}
theorem s_tally {w g : Nat} (hw : w < 9) (hg : g < 12) : Sem mX8_tallyFigure 1 0 0 [.ref 0, .int (nI (100 * w + g))] (cW tb tl tc tn fc ff fs ft fu fw fy fd dc dp dq dn dm ec ep eq en em ik lr ln ly wh wr wf wb wn gz wc ws wa pw pf pl ta, R) none (cW tb tl tc tn fc ff fs ft fu fw fy fd dc dp dq dn dm ec ep eq en em ik lr ln ly wh wr wf wb wn gz wc ws wa pw pf pl (upd ta g (ta g + nI 1)), R) := by
  refine sem_of (by decide) (Nat.le_of_ble_eq_true rfl) rfl ?_
  have hr : (100 * w + g) % 100 = g := by omega
  refine r_iload_n dX8_tallyFigure_0 rfl ?_
  refine r_bipush (v := (nI 100)) dX8_tallyFigure_1 (by decide) ?_
  refine r_iremN dX8_tallyFigure_3 (by omega) (by decide) (by decide) ?_
  rw [hr]
  refine r_istore_n (ls' := [_, _, _]) dX8_tallyFigure_4 (by decide) rfl ?_
  refine r_iload_n dX8_tallyFigure_5 rfl ?_
  refine r_pc 6 rfl ?_
  refine r_if_lt 25 dX8_tallyFigure_6 (by decide) (fun h6 => ?_) (fun h6 => ?_)
  · exact absurd h6 (nI_pos (by omega))
  · refine r_pc 9 rfl ?_
    refine r_iload_n dX8_tallyFigure_9 rfl ?_
    refine r_bipush (v := (nI 12)) dX8_tallyFigure_10 (by decide) ?_
    refine r_icmp_geN 25 dX8_tallyFigure_12 (by decide) (by omega) (by omega) (fun h12 => ?_) (fun h12 => ?_)
    · exact absurd h12 (by omega)
    · refine r_pc 15 rfl ?_
      refine r_aload_n dX8_tallyFigure_15 rfl ?_
      refine r_get dX8_tallyFigure_16 fX8_58 rfl rfl ?_
      refine r_iload_n dX8_tallyFigure_19 rfl ?_
      refine r_dup2 dX8_tallyFigure_20 rfl rfl ?_
      refine r_iald dX8_tallyFigure_21 rfl rfl hg (by decide) ?_
      refine r_pc 22 rfl ?_
      refine r_iconst (v := (nI 1)) dX8_tallyFigure_22 (by decide) ?_
      refine r_iadd dX8_tallyFigure_23 ?_
      refine r_iast (w2 := (cW _ _ _ _ _ _ _ _ _ _ _ _ _ _ _ _ _ _ _ _ _ _ _ _ _ _ _ _ _ _ _ _ _ _ _ _ _ _ _, _)) dX8_tallyFigure_24 rfl rfl hg (by decide) rfl ?_
      exact r_vret dX8_tallyFigure_25 rfl rfl rfl
end C2
