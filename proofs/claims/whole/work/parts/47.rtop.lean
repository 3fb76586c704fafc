/-! ===== the object's state, as the reference shows it ===== -/
def rkI (ik : Bool) (kn : Nat) : Int32 := match ik with
  | true => nI kn
  | false => -2
def RI (L : Nat) (b : Nat → Nat) (n m : Nat) (cd : Nat → Nat) (Q : Nat → Int64) (ik : Bool) (kn : Nat) (kc : Nat → Nat) (kQ : Nat → Int64) (fn : Nat) (fr : Nat → Int32) (fz : Int32) (tal : Nat → Int32) (R : List AE) (w : WD) : Prop := ∃ (rc rf ro rt ru rm rg : Nat → Int32) (rp rq : Int32) (ry rl : Nat → Int32) (wt rk : Nat → Int64) (rx rz rd rT rR : Nat → Int32) (rN rA rF : Int32) (rC : Nat → Int64) (rO rB rY rP : Nat → Int32) (rb : Int32),
  w = (R, mW rc rf ro rt ru rm rg rp rq ry rl (nI fn) (fz) (wt) rk rx rz rd (nI n) (nI (m - n)) (rkI ik kn) rT rR (nI L) rN rA rF rC rO rB rY rP rb) ∧
  SI L b n m cd Q kn kc kQ fn ∧ (∀ j, j < L → rT j = nI (b j)) ∧ (∀ j, j < m → rx j = nI (cd j)) ∧ (∀ j, j ≤ m → wt j = bt (Q j)) ∧ (ik = true → ∀ j, j < kn → rz j = nI (kc j)) ∧ (ik = true → ∀ j, j ≤ kn → rk j = bt (kQ j)) ∧ (∀ j, j < fn → rl j = fr j) ∧ (∀ j, j < 12 → rd j = tal j)
theorem Sq_bt (q : Int64) : Sq (fun j => nI (rqc (bt q) j)) (fun j => nI (rqf (bt q) j)) (sqc q) (sqf q) := fun j hj => ⟨congrArg nI (bt_c q hj), sqc_lt q j, congrArg nI (bt_f q hj), sqf_lt q j⟩
theorem Sd_bt (q : Int64) : SdM (fun x => stN (who (rqc (bt q)) 8 x)) (sqc q) := fun x _ => by
  show stN (who (rqc (bt q)) 8 x) = _
  rw [who_ext (fun j hj => bt_c q hj)]
theorem out_dec {x a b : Int32} (h : x < a ∨ b < x) : decide (¬ x < a ∧ ¬ b < x) = false := decide_eq_false (fun z => h.elim z.1 z.2)
theorem in_dec {x a b : Nat} (hx : x < 2 ^ 31) (ha : a < 2 ^ 31) (hb : b < 2 ^ 31) (h : a ≤ x ∧ x ≤ b) : decide (¬ nI x < nI a ∧ ¬ nI b < nI x) = true := decide_eq_true (by
  rw [nI_ltI hx ha, nI_ltI hb hx]
  omega)
theorem le_lt1 {x : Int32} {k : Nat} (hk : k + 1 < 2 ^ 31) (h : nI (k + 1) ≤ x) : nI k < x := by
  rw [Int32.le_iff_toInt_le, nI_toInt hk] at h
  rw [Int32.lt_iff_toInt_lt, nI_toInt (by omega)]
  omega
section R7
variable {rc rf ro rt ru rm rg : Nat → Int32} {rp rq : Int32} {ry rl : Nat → Int32} {rn ra : Int32} {rw rk : Nat → Int64} {rx rz rd : Nat → Int32} {rM rU rK : Int32} {rT rR : Nat → Int32} {rL rN rA rF : Int32} {rC : Nat → Int64} {rO rB rY rP : Nat → Int32} {rb : Int32}
variable {R : List AE} {c f : Nat → Nat}
theorem m_look {n : Nat} {q : Int64} (hn : n ≤ 200) (hq : rw n = bt q) : Sem mX9_looksNow 2 0 0 [.ref 100] (R, mW rc rf ro rt ru rm rg rp rq ry rl rn ra rw rk rx rz rd (nI n) rU rK rT rR rL rN rA rF rC rO rB rY rP rb) none (R, mW (fun j => nI (rqc (bt q) j)) (fun j => nI (rqf (bt q) j)) (fun x => stN (who (rqc (bt q)) 8 x)) rt ru rm rg rp rq ry rl rn ra rw rk rx rz rd (nI n) rU rK rT rR rL rN rA rF rC rO rB rY rP rb) := by
  rw [← hq]
  exact m_looksNow hn
end R7
section D1
variable {R : List AE} {w : WD} {L : Nat} {b : Nat → Nat} {n m : Nat} {cd : Nat → Nat} {Q : Nat → Int64} {ik : Bool} {kn : Nat} {kc : Nat → Nat} {kQ : Nat → Int64} {fn : Nat} {fr : Nat → Int32} {fz : Int32} {tal : Nat → Int32}
theorem d_feed0 {x : Int32} (hR : RI L b n m cd Q ik kn kc kQ fn fr fz tal R w) (hx : x < nI 32 ∨ nI 126 < x) : SemP mX9_feed 3 0 0 [.ref 100, .int x] w (Top (-1) (RI L b n m cd Q ik kn kc kQ fn fr fz tal R)) := by
  obtain ⟨rc, rf, ro, rt, ru, rm, rg, rp, rq, ry, rl, wt, rk, rx, rz, rd, rT, rR, rN, rA, rF, rC, rO, rB, rY, rP, rb, rfl, ⟨s1, s2, s3, s4, s5, s6⟩, hB, hrx, hrw, hrz, hrk, hrl, hrd⟩ := hR
  have hm : m ≤ 200 := s4.1
  have hkn : kn ≤ 200 := s5.1
  have hL : L ≤ 120 := s1
  have s3 : n ≤ m := s3
  have hn : n ≤ 200 := Nat.le_trans s3 s4.1
  have s6 : fn ≤ 8 := s6
  have hrx : ∀ j, j < m → rx j = nI (cd j) := hrx
  have hrw : ∀ j, j ≤ m → wt j = bt (Q j) := hrw
  have hrl : ∀ j, j < fn → rl j = fr j := hrl
  have hrd : ∀ j, j < 12 → rd j = tal j := hrd
  have hQn : wt n = bt (Q n) := hrw n s3
  have hVn : Vq (Q n) := s4.2.2.1 n s3
  refine semP_of (by decide) (Nat.le_of_ble_eq_true rfl) rfl ?_
  refine r_iload_n dX9_feed_0 rfl ?_
  refine r_bipush (v := (nI 32)) dX9_feed_1 (by decide) ?_
  refine r_bipush (v := (nI 126)) dX9_feed_3 (by decide) ?_
  refine r_cS dX9_feed_5 (m_isIn _ _ _ _) lX9_147 rfl rfl (by decide) ⟨Nat.le_refl _, Nat.le_refl _⟩ (Nat.le_of_ble_eq_true rfl) ?_
  rw [out_dec hx]
  refine r_if_ne 13 dX9_feed_8 (by decide) (fun h8 => ?_) (fun h8 => ?_)
  · exact absurd rfl h8
  · refine r_pc 11 rfl ?_
    refine r_iconst (v := (-1)) dX9_feed_11 (by decide) ?_
    exact r_iretP dX9_feed_12 rfl ⟨rfl, _, _, _, _, _, _, _, _, _, _, _, _, _, _, _, _, _, _, _, _, _, _, _, _, _, _, _, rfl, ⟨⟨s1, s2, s3, s4, s5, s6⟩, hB, hrx, hrw, hrz, hrk, hrl, hrd⟩⟩
theorem d_feed1 {v : Nat} (hR : RI (120) b n m cd Q ik kn kc kQ fn fr fz tal R w) (h1 : 32 ≤ v) (h2 : v ≤ 126) : SemP mX9_feed 3 0 0 [.ref 100, .int (nI v)] w (Top (-3) (RI (120) b n m cd Q ik kn kc kQ fn fr fz tal R)) := by
  obtain ⟨rc, rf, ro, rt, ru, rm, rg, rp, rq, ry, rl, wt, rk, rx, rz, rd, rT, rR, rN, rA, rF, rC, rO, rB, rY, rP, rb, rfl, ⟨s1, s2, s3, s4, s5, s6⟩, hB, hrx, hrw, hrz, hrk, hrl, hrd⟩ := hR
  have hm : m ≤ 200 := s4.1
  have hkn : kn ≤ 200 := s5.1
  have hL : 120 ≤ 120 := s1
  have s3 : n ≤ m := s3
  have hn : n ≤ 200 := Nat.le_trans s3 s4.1
  have s6 : fn ≤ 8 := s6
  have hrx : ∀ j, j < m → rx j = nI (cd j) := hrx
  have hrw : ∀ j, j ≤ m → wt j = bt (Q j) := hrw
  have hrl : ∀ j, j < fn → rl j = fr j := hrl
  have hrd : ∀ j, j < 12 → rd j = tal j := hrd
  have hQn : wt n = bt (Q n) := hrw n s3
  have hVn : Vq (Q n) := s4.2.2.1 n s3
  refine semP_of (by decide) (Nat.le_of_ble_eq_true rfl) rfl ?_
  refine r_iload_n dX9_feed_0 rfl ?_
  refine r_bipush (v := (nI 32)) dX9_feed_1 (by decide) ?_
  refine r_bipush (v := (nI 126)) dX9_feed_3 (by decide) ?_
  refine r_cS dX9_feed_5 (m_isIn _ _ _ _) lX9_147 rfl rfl (by decide) ⟨Nat.le_refl _, Nat.le_refl _⟩ (Nat.le_of_ble_eq_true rfl) ?_
  rw [in_dec (by omega) (by decide) (by decide) ⟨h1, h2⟩]
  refine r_if_ne 13 dX9_feed_8 (by decide) (fun h8 => ?_) (fun h8 => ?_)
  · refine r_pc 13 rfl ?_
    refine r_aload_n dX9_feed_13 rfl ?_
    refine r_get dX9_feed_14 fX9_208 rfl rfl ?_
    refine r_bipush (v := (nI 120)) dX9_feed_17 (by decide) ?_
    refine r_icmp_ne 25 dX9_feed_19 (by decide) (fun h19 => ?_) (fun h19 => ?_)
    · exact absurd rfl h19
    · refine r_pc 22 rfl ?_
      refine r_bipush (v := (-3)) dX9_feed_22 (by decide) ?_
      exact r_iretP dX9_feed_24 rfl ⟨rfl, _, _, _, _, _, _, _, _, _, _, _, _, _, _, _, _, _, _, _, _, _, _, _, _, _, _, _, rfl, ⟨⟨s1, s2, s3, s4, s5, s6⟩, hB, hrx, hrw, hrz, hrk, hrl, hrd⟩⟩
  · exact absurd h8 (by decide)
theorem d_feed2 {v : Nat} (hR : RI L b n m cd Q ik kn kc kQ fn fr fz tal R w) (h1 : 32 ≤ v) (h2 : v ≤ 126) (hl : L < 120) : SemP mX9_feed 3 0 0 [.ref 100, .int (nI v)] w (Top (nI (L + 1)) (RI (L + 1) (up b L v) n m cd Q ik kn kc kQ fn fr fz tal R)) := by
  obtain ⟨rc, rf, ro, rt, ru, rm, rg, rp, rq, ry, rl, wt, rk, rx, rz, rd, rT, rR, rN, rA, rF, rC, rO, rB, rY, rP, rb, rfl, ⟨s1, s2, s3, s4, s5, s6⟩, hB, hrx, hrw, hrz, hrk, hrl, hrd⟩ := hR
  have hm : m ≤ 200 := s4.1
  have hkn : kn ≤ 200 := s5.1
  have hL : L ≤ 120 := s1
  have s3 : n ≤ m := s3
  have hn : n ≤ 200 := Nat.le_trans s3 s4.1
  have s6 : fn ≤ 8 := s6
  have hrx : ∀ j, j < m → rx j = nI (cd j) := hrx
  have hrw : ∀ j, j ≤ m → wt j = bt (Q j) := hrw
  have hrl : ∀ j, j < fn → rl j = fr j := hrl
  have hrd : ∀ j, j < 12 → rd j = tal j := hrd
  have hQn : wt n = bt (Q n) := hrw n s3
  have hVn : Vq (Q n) := s4.2.2.1 n s3
  refine semP_of (by decide) (Nat.le_of_ble_eq_true rfl) rfl ?_
  have hS' : SI (L + 1) (up b L v) n m cd Q kn kc kQ fn := ⟨by omega, fun j hj => by
    show up b L v j < 128
    unfold up
    split
    · omega
    · exact s2 j (by omega), s3, s4, s5, s6⟩
  have hB' : ∀ j, j < L + 1 → upd rT L (nI v) j = nI (up b L v j) := by
    intro j hj
    by_cases e : j = L
    · subst e; rw [pk_us]; simp [up]
    · rw [pk_un e]; simp only [up, if_neg e]; exact hB j (by omega)
  refine r_iload_n dX9_feed_0 rfl ?_
  refine r_bipush (v := (nI 32)) dX9_feed_1 (by decide) ?_
  refine r_bipush (v := (nI 126)) dX9_feed_3 (by decide) ?_
  refine r_cS dX9_feed_5 (m_isIn _ _ _ _) lX9_147 rfl rfl (by decide) ⟨Nat.le_refl _, Nat.le_refl _⟩ (Nat.le_of_ble_eq_true rfl) ?_
  rw [in_dec (by omega) (by decide) (by decide) ⟨h1, h2⟩]
  refine r_if_ne 13 dX9_feed_8 (by decide) (fun h8 => ?_) (fun h8 => ?_)
  · refine r_pc 13 rfl ?_
    refine r_aload_n dX9_feed_13 rfl ?_
    refine r_get dX9_feed_14 fX9_208 rfl rfl ?_
    refine r_bipush (v := (nI 120)) dX9_feed_17 (by decide) ?_
    refine r_icmp_neN 25 dX9_feed_19 (by decide) (by omega) (by omega) (fun h19 => ?_) (fun h19 => ?_)
    · refine r_pc 25 rfl ?_
      refine r_aload_n dX9_feed_25 rfl ?_
      refine r_get dX9_feed_26 fX9_109 rfl rfl ?_
      refine r_aload_n dX9_feed_29 rfl ?_
      refine r_get dX9_feed_30 fX9_208 rfl rfl ?_
      refine r_iload_n dX9_feed_33 rfl ?_
      refine r_pc 34 rfl ?_
      refine r_iast (w2 := (_, mW _ _ _ _ _ _ _ _ _ _ _ _ _ _ _ _ _ _ _ _ _ _ _ _ _ _ _ _ _ _ _ _ _)) dX9_feed_34 rfl rfl (by omega) (by decide) rfl ?_
      refine r_aload_n dX9_feed_35 rfl ?_
      refine r_dup dX9_feed_36 rfl ?_
      refine r_get dX9_feed_37 fX9_208 rfl rfl ?_
      refine r_iconst (v := (nI 1)) dX9_feed_40 (by decide) ?_
      refine r_pc 41 rfl ?_
      refine r_iaddN dX9_feed_41 ?_
      refine r_put (w2 := (_, mW _ _ _ _ _ _ _ _ _ _ _ _ _ _ _ _ _ _ _ _ _ _ _ _ _ _ _ _ _ _ _ _ _)) dX9_feed_42 fX9_208 rfl rfl (Nat.le_of_ble_eq_true rfl) (fun _ => rfl) (fun _ => rfl) rfl ?_
      refine r_aload_n dX9_feed_45 rfl ?_
      refine r_get dX9_feed_46 fX9_208 rfl rfl ?_
      exact r_iretP dX9_feed_49 rfl ⟨rfl, _, _, _, _, _, _, _, _, _, _, _, _, _, _, _, _, _, _, _, _, _, _, _, _, _, _, _, rfl, ⟨hS', hB', hrx, hrw, hrz, hrk, hrl, hrd⟩⟩
    · exact absurd h19 (by omega)
  · exact absurd h8 (by decide)
theorem d_undo0 (hR : RI L b (0) m cd Q ik kn kc kQ fn fr fz tal R w) : SemP mX9_undo 3 0 0 [.ref 100] w (Top (-5) (RI L b (0) m cd Q ik kn kc kQ fn fr fz tal R)) := by
  obtain ⟨rc, rf, ro, rt, ru, rm, rg, rp, rq, ry, rl, wt, rk, rx, rz, rd, rT, rR, rN, rA, rF, rC, rO, rB, rY, rP, rb, rfl, ⟨s1, s2, s3, s4, s5, s6⟩, hB, hrx, hrw, hrz, hrk, hrl, hrd⟩ := hR
  have hm : m ≤ 200 := s4.1
  have hkn : kn ≤ 200 := s5.1
  have hL : L ≤ 120 := s1
  have s3 : 0 ≤ m := s3
  have hn : 0 ≤ 200 := Nat.le_trans s3 s4.1
  have s6 : fn ≤ 8 := s6
  have hrx : ∀ j, j < m → rx j = nI (cd j) := hrx
  have hrw : ∀ j, j ≤ m → wt j = bt (Q j) := hrw
  have hrl : ∀ j, j < fn → rl j = fr j := hrl
  have hrd : ∀ j, j < 12 → rd j = tal j := hrd
  have hQn : wt 0 = bt (Q 0) := hrw 0 s3
  have hVn : Vq (Q 0) := s4.2.2.1 0 s3
  refine semP_of (by decide) (Nat.le_of_ble_eq_true rfl) rfl ?_
  refine r_aload_n dX9_undo_0 rfl ?_
  refine r_get dX9_undo_1 fX9_144 rfl rfl ?_
  refine r_if_ne 10 dX9_undo_4 (by decide) (fun h4 => ?_) (fun h4 => ?_)
  · exact absurd rfl h4
  · refine r_pc 7 rfl ?_
    refine r_bipush (v := (-5)) dX9_undo_7 (by decide) ?_
    exact r_iretP dX9_undo_9 rfl ⟨rfl, _, _, _, _, _, _, _, _, _, _, _, _, _, _, _, _, _, _, _, _, _, _, _, _, _, _, _, rfl, ⟨⟨s1, s2, s3, s4, s5, s6⟩, hB, hrx, hrw, hrz, hrk, hrl, hrd⟩⟩
theorem d_undo1 (hR : RI L b (n + 1) m cd Q ik kn kc kQ fn fr fz tal R w) : SemP mX9_undo 3 0 0 [.ref 100] w (Top (nI n) (RI L b n m cd Q ik kn kc kQ fn fr fz tal R)) := by
  obtain ⟨rc, rf, ro, rt, ru, rm, rg, rp, rq, ry, rl, wt, rk, rx, rz, rd, rT, rR, rN, rA, rF, rC, rO, rB, rY, rP, rb, rfl, ⟨s1, s2, s3, s4, s5, s6⟩, hB, hrx, hrw, hrz, hrk, hrl, hrd⟩ := hR
  have hm : m ≤ 200 := s4.1
  have hkn : kn ≤ 200 := s5.1
  have hL : L ≤ 120 := s1
  have s3 : n + 1 ≤ m := s3
  have hn : n + 1 ≤ 200 := Nat.le_trans s3 s4.1
  have s6 : fn ≤ 8 := s6
  have hrx : ∀ j, j < m → rx j = nI (cd j) := hrx
  have hrw : ∀ j, j ≤ m → wt j = bt (Q j) := hrw
  have hrl : ∀ j, j < fn → rl j = fr j := hrl
  have hrd : ∀ j, j < 12 → rd j = tal j := hrd
  have hQn : wt (n + 1) = bt (Q (n + 1)) := hrw (n + 1) s3
  have hVn : Vq (Q (n + 1)) := s4.2.2.1 (n + 1) s3
  refine semP_of (by decide) (Nat.le_of_ble_eq_true rfl) rfl ?_
  have e : nI (m - (n + 1) + 1) = nI (m - n) := congrArg nI (by omega)
  refine r_aload_n dX9_undo_0 rfl ?_
  refine r_get dX9_undo_1 fX9_144 rfl rfl ?_
  refine r_if_ne 10 dX9_undo_4 (by decide) (fun h4 => ?_) (fun h4 => ?_)
  · refine r_pc 10 rfl ?_
    refine r_aload_n dX9_undo_10 rfl ?_
    refine r_dup dX9_undo_11 rfl ?_
    refine r_get dX9_undo_12 fX9_144 rfl rfl ?_
    refine r_iconst (v := (nI 1)) dX9_undo_15 (by decide) ?_
    refine r_isubN dX9_undo_16 (by omega) ?_
    refine r_pc 17 rfl ?_
    rw [Nat.add_sub_cancel]
    refine r_put (w2 := (_, mW _ _ _ _ _ _ _ _ _ _ _ _ _ _ _ _ _ _ _ _ _ _ _ _ _ _ _ _ _ _ _ _ _)) dX9_undo_17 fX9_144 rfl rfl (Nat.le_of_ble_eq_true rfl) (fun _ => rfl) (fun _ => rfl) rfl ?_
    refine r_aload_n dX9_undo_20 rfl ?_
    refine r_dup dX9_undo_21 rfl ?_
    refine r_get dX9_undo_22 fX9_252 rfl rfl ?_
    refine r_iconst (v := (nI 1)) dX9_undo_25 (by decide) ?_
    refine r_pc 26 rfl ?_
    refine r_iaddN dX9_undo_26 ?_
    rw [e]
    refine r_put (w2 := (_, mW _ _ _ _ _ _ _ _ _ _ _ _ _ _ _ _ _ _ _ _ _ _ _ _ _ _ _ _ _ _ _ _ _)) dX9_undo_27 fX9_252 rfl rfl (Nat.le_of_ble_eq_true rfl) (fun _ => rfl) (fun _ => rfl) rfl ?_
    refine r_aload_n dX9_undo_30 rfl ?_
    refine r_get dX9_undo_31 fX9_144 rfl rfl ?_
    exact r_iretP dX9_undo_34 rfl ⟨rfl, _, _, _, _, _, _, _, _, _, _, _, _, _, _, _, _, _, _, _, _, _, _, _, _, _, _, _, rfl, ⟨⟨s1, s2, Nat.le_of_succ_le s3, s4, s5, s6⟩, hB, hrx, hrw, hrz, hrk, hrl, hrd⟩⟩
  · exact absurd (nI_z (by omega) h4) (by omega)
theorem d_redo0 (hR : RI L b n m cd Q ik kn kc kQ fn fr fz tal R w) (h : m ≤ n) : SemP mX9_redo 3 0 0 [.ref 100] w (Top (-5) (RI L b n m cd Q ik kn kc kQ fn fr fz tal R)) := by
  obtain ⟨rc, rf, ro, rt, ru, rm, rg, rp, rq, ry, rl, wt, rk, rx, rz, rd, rT, rR, rN, rA, rF, rC, rO, rB, rY, rP, rb, rfl, ⟨s1, s2, s3, s4, s5, s6⟩, hB, hrx, hrw, hrz, hrk, hrl, hrd⟩ := hR
  have hm : m ≤ 200 := s4.1
  have hkn : kn ≤ 200 := s5.1
  have hL : L ≤ 120 := s1
  have s3 : n ≤ m := s3
  have hn : n ≤ 200 := Nat.le_trans s3 s4.1
  have s6 : fn ≤ 8 := s6
  have hrx : ∀ j, j < m → rx j = nI (cd j) := hrx
  have hrw : ∀ j, j ≤ m → wt j = bt (Q j) := hrw
  have hrl : ∀ j, j < fn → rl j = fr j := hrl
  have hrd : ∀ j, j < 12 → rd j = tal j := hrd
  have hQn : wt n = bt (Q n) := hrw n s3
  have hVn : Vq (Q n) := s4.2.2.1 n s3
  refine semP_of (by decide) (Nat.le_of_ble_eq_true rfl) rfl ?_
  have e : nI (m - n) = nI 0 := congrArg nI (by omega)
  refine r_aload_n dX9_redo_0 rfl ?_
  refine r_get dX9_redo_1 fX9_252 rfl rfl ?_
  rw [e]
  refine r_if_ne 10 dX9_redo_4 (by decide) (fun h4 => ?_) (fun h4 => ?_)
  · exact absurd rfl h4
  · refine r_pc 7 rfl ?_
    refine r_bipush (v := (-5)) dX9_redo_7 (by decide) ?_
    exact r_iretP dX9_redo_9 rfl ⟨rfl, _, _, _, _, _, _, _, _, _, _, _, _, _, _, _, _, _, _, _, _, _, _, _, _, _, _, _, by rw [← e], ⟨⟨s1, s2, s3, s4, s5, s6⟩, hB, hrx, hrw, hrz, hrk, hrl, hrd⟩⟩
theorem d_redo1 (hR : RI L b n m cd Q ik kn kc kQ fn fr fz tal R w) (h : n < m) : SemP mX9_redo 3 0 0 [.ref 100] w (Top (nI (n + 1)) (RI L b (n + 1) m cd Q ik kn kc kQ fn fr fz (upd tal (cd n % 100) (tal (cd n % 100) + nI 1)) R)) := by
  obtain ⟨rc, rf, ro, rt, ru, rm, rg, rp, rq, ry, rl, wt, rk, rx, rz, rd, rT, rR, rN, rA, rF, rC, rO, rB, rY, rP, rb, rfl, ⟨s1, s2, s3, s4, s5, s6⟩, hB, hrx, hrw, hrz, hrk, hrl, hrd⟩ := hR
  have hm : m ≤ 200 := s4.1
  have hkn : kn ≤ 200 := s5.1
  have hL : L ≤ 120 := s1
  have s3 : n ≤ m := s3
  have hn : n ≤ 200 := Nat.le_trans s3 s4.1
  have s6 : fn ≤ 8 := s6
  have hrx : ∀ j, j < m → rx j = nI (cd j) := hrx
  have hrw : ∀ j, j ≤ m → wt j = bt (Q j) := hrw
  have hrl : ∀ j, j < fn → rl j = fr j := hrl
  have hrd : ∀ j, j < 12 → rd j = tal j := hrd
  have hQn : wt n = bt (Q n) := hrw n s3
  have hVn : Vq (Q n) := s4.2.2.1 n s3
  refine semP_of (by decide) (Nat.le_of_ble_eq_true rfl) rfl ?_
  have e : nI (m - n - 1) = nI (m - (n + 1)) := congrArg nI (by omega)
  have e2 := hrx n h
  have e3 := (s4.2.1 n h).2
  have e4 := (s4.2.1 n h).1
  have hrd' : ∀ j, j < 12 → upd rd (cd n % 100) (rd (cd n % 100) + nI 1) j = upd tal (cd n % 100) (tal (cd n % 100) + nI 1) j := fun j hj => by
    by_cases q : j = cd n % 100
    · rw [q, pk_us, pk_us, hrd _ e3]
    · rw [pk_un q, pk_un q, hrd j hj]
  refine r_aload_n dX9_redo_0 rfl ?_
  refine r_get dX9_redo_1 fX9_252 rfl rfl ?_
  refine r_if_ne 10 dX9_redo_4 (by decide) (fun h4 => ?_) (fun h4 => ?_)
  · refine r_pc 10 rfl ?_
    refine r_aload_n dX9_redo_10 rfl ?_
    refine r_dup dX9_redo_11 rfl ?_
    refine r_get dX9_redo_12 fX9_252 rfl rfl ?_
    refine r_iconst (v := (nI 1)) dX9_redo_15 (by decide) ?_
    refine r_isubN dX9_redo_16 (by omega) ?_
    refine r_pc 17 rfl ?_
    rw [e]
    refine r_put (w2 := (_, mW _ _ _ _ _ _ _ _ _ _ _ _ _ _ _ _ _ _ _ _ _ _ _ _ _ _ _ _ _ _ _ _ _)) dX9_redo_17 fX9_252 rfl rfl (Nat.le_of_ble_eq_true rfl) (fun _ => rfl) (fun _ => rfl) rfl ?_
    refine r_aload_n dX9_redo_20 rfl ?_
    refine r_get dX9_redo_21 fX9_102 rfl rfl ?_
    refine r_aload_n dX9_redo_24 rfl ?_
    refine r_get dX9_redo_25 fX9_96 rfl rfl ?_
    refine r_pc 28 rfl ?_
    refine r_aload_n dX9_redo_28 rfl ?_
    refine r_get dX9_redo_29 fX9_144 rfl rfl ?_
    refine r_iald dX9_redo_32 rfl rfl (by omega) (by decide) ?_
    refine r_topi _ e2 ?_
    refine r_bipush (v := (nI 100)) dX9_redo_33 (by decide) ?_
    refine r_iremN dX9_redo_35 (by omega) (by decide) (by decide) ?_
    refine r_pc 36 rfl ?_
    refine r_dup2 dX9_redo_36 rfl rfl ?_
    refine r_iald dX9_redo_37 rfl rfl e3 (by decide) ?_
    refine r_iconst (v := (nI 1)) dX9_redo_38 (by decide) ?_
    refine r_iadd dX9_redo_39 ?_
    refine r_iast (w2 := (_, mW _ _ _ _ _ _ _ _ _ _ _ _ _ _ _ _ _ _ _ _ _ _ _ _ _ _ _ _ _ _ _ _ _)) dX9_redo_40 rfl rfl e3 (by decide) rfl ?_
    refine r_pc 41 rfl ?_
    refine r_aload_n dX9_redo_41 rfl ?_
    refine r_dup dX9_redo_42 rfl ?_
    refine r_get dX9_redo_43 fX9_144 rfl rfl ?_
    refine r_iconst (v := (nI 1)) dX9_redo_46 (by decide) ?_
    refine r_iaddN dX9_redo_47 ?_
    refine r_pc 48 rfl ?_
    refine r_put (w2 := (_, mW _ _ _ _ _ _ _ _ _ _ _ _ _ _ _ _ _ _ _ _ _ _ _ _ _ _ _ _ _ _ _ _ _)) dX9_redo_48 fX9_144 rfl rfl (Nat.le_of_ble_eq_true rfl) (fun _ => rfl) (fun _ => rfl) rfl ?_
    refine r_aload_n dX9_redo_51 rfl ?_
    refine r_get dX9_redo_52 fX9_144 rfl rfl ?_
    exact r_iretP dX9_redo_55 rfl ⟨rfl, _, _, _, _, _, _, _, _, _, _, _, _, _, _, _, _, _, _, _, _, _, _, _, _, _, _, _, rfl, ⟨⟨s1, s2, h, s4, s5, s6⟩, hB, hrx, hrw, hrz, hrk, hrl, hrd'⟩⟩
  · exact absurd (nI_z (by omega) h4) (by omega)
theorem d_home (hR : RI L b n m cd Q ik kn kc kQ fn fr fz tal R w) : SemP mX9_home 3 0 0 [.ref 100] w (Top (nI n) (RI L b (0) (0) cd Q ik kn kc kQ fn fr fz tal R)) := by
  obtain ⟨rc, rf, ro, rt, ru, rm, rg, rp, rq, ry, rl, wt, rk, rx, rz, rd, rT, rR, rN, rA, rF, rC, rO, rB, rY, rP, rb, rfl, ⟨s1, s2, s3, s4, s5, s6⟩, hB, hrx, hrw, hrz, hrk, hrl, hrd⟩ := hR
  have hm : m ≤ 200 := s4.1
  have hkn : kn ≤ 200 := s5.1
  have hL : L ≤ 120 := s1
  have s3 : n ≤ m := s3
  have hn : n ≤ 200 := Nat.le_trans s3 s4.1
  have s6 : fn ≤ 8 := s6
  have hrx : ∀ j, j < m → rx j = nI (cd j) := hrx
  have hrw : ∀ j, j ≤ m → wt j = bt (Q j) := hrw
  have hrl : ∀ j, j < fn → rl j = fr j := hrl
  have hrd : ∀ j, j < 12 → rd j = tal j := hrd
  have hQn : wt n = bt (Q n) := hrw n s3
  have hVn : Vq (Q n) := s4.2.2.1 n s3
  refine semP_of (by decide) (Nat.le_of_ble_eq_true rfl) rfl ?_
  have s4' : Dn 0 cd Q := ⟨Nat.zero_le _, fun j h => absurd h (Nat.not_lt_zero _), fun j h => s4.2.2.1 j (by omega), s4.2.2.2⟩
  refine r_aload_n dX9_home_0 rfl ?_
  refine r_get dX9_home_1 fX9_144 rfl rfl ?_
  refine r_istore_n (ls' := [_, _]) dX9_home_4 (by decide) rfl ?_
  refine r_aload_n dX9_home_5 rfl ?_
  refine r_iconst (v := (nI 0)) dX9_home_6 (by decide) ?_
  refine r_pc 7 rfl ?_
  refine r_put (w2 := (_, mW _ _ _ _ _ _ _ _ _ _ _ _ _ _ _ _ _ _ _ _ _ _ _ _ _ _ _ _ _ _ _ _ _)) dX9_home_7 fX9_144 rfl rfl (Nat.le_of_ble_eq_true rfl) (fun _ => rfl) (fun _ => rfl) rfl ?_
  refine r_aload_n dX9_home_10 rfl ?_
  refine r_iconst (v := (nI 0)) dX9_home_11 (by decide) ?_
  refine r_put (w2 := (_, mW _ _ _ _ _ _ _ _ _ _ _ _ _ _ _ _ _ _ _ _ _ _ _ _ _ _ _ _ _ _ _ _ _)) dX9_home_12 fX9_252 rfl rfl (Nat.le_of_ble_eq_true rfl) (fun _ => rfl) (fun _ => rfl) rfl ?_
  refine r_iload_n dX9_home_15 rfl ?_
  refine r_pc 16 rfl ?_
  exact r_iretP dX9_home_16 rfl ⟨rfl, _, _, _, _, _, _, _, _, _, _, _, _, _, _, _, _, _, _, _, _, _, _, _, _, _, _, _, rfl, ⟨⟨s1, s2, Nat.le_refl _, s4', s5, s6⟩, hB, fun j h => absurd h (Nat.not_lt_zero _), fun j h => hrw j (by omega), hrz, hrk, hrl, hrd⟩⟩
theorem d_at0 {x y : Int32} (hR : RI L b n m cd Q ik kn kc kQ fn fr fz tal R w) (h : x < 0 ∨ nI 8 ≤ x ∨ y < 0 ∨ nI 5 < y) : SemP mX9_at 5 0 0 [.ref 100, .int x, .int y] w (Top (-1) (RI L b n m cd Q ik kn kc kQ fn fr fz tal R)) := by
  obtain ⟨rc, rf, ro, rt, ru, rm, rg, rp, rq, ry, rl, wt, rk, rx, rz, rd, rT, rR, rN, rA, rF, rC, rO, rB, rY, rP, rb, rfl, ⟨s1, s2, s3, s4, s5, s6⟩, hB, hrx, hrw, hrz, hrk, hrl, hrd⟩ := hR
  have hm : m ≤ 200 := s4.1
  have hkn : kn ≤ 200 := s5.1
  have hL : L ≤ 120 := s1
  have s3 : n ≤ m := s3
  have hn : n ≤ 200 := Nat.le_trans s3 s4.1
  have s6 : fn ≤ 8 := s6
  have hrx : ∀ j, j < m → rx j = nI (cd j) := hrx
  have hrw : ∀ j, j ≤ m → wt j = bt (Q j) := hrw
  have hrl : ∀ j, j < fn → rl j = fr j := hrl
  have hrd : ∀ j, j < 12 → rd j = tal j := hrd
  have hQn : wt n = bt (Q n) := hrw n s3
  have hVn : Vq (Q n) := s4.2.2.1 n s3
  refine semP_of (by decide) (Nat.le_of_ble_eq_true rfl) rfl ?_
  by_cases q : x < 0 ∨ nI 7 < x
  · refine r_iload_n dX9_at_0 rfl ?_
    refine r_iconst (v := (nI 0)) dX9_at_1 (by decide) ?_
    refine r_bipush (v := (nI 7)) dX9_at_2 (by decide) ?_
    refine r_cS dX9_at_4 (m_isIn _ _ _ _) lX9_147 rfl rfl (by decide) ⟨Nat.le_refl _, Nat.le_refl _⟩ (Nat.le_of_ble_eq_true rfl) ?_
    rw [out_dec (a := nI 0) q]
    refine r_if_eq 19 dX9_at_7 (by decide) (fun h7 => ?_) (fun h7 => ?_)
    · refine r_pc 19 rfl ?_
      refine r_iconst (v := (-1)) dX9_at_19 (by decide) ?_
      exact r_iretP dX9_at_20 rfl ⟨rfl, _, _, _, _, _, _, _, _, _, _, _, _, _, _, _, _, _, _, _, _, _, _, _, _, _, _, _, rfl, ⟨⟨s1, s2, s3, s4, s5, s6⟩, hB, hrx, hrw, hrz, hrk, hrl, hrd⟩⟩
    · exact absurd rfl h7
  · have q2 : decide (¬ x < nI 0 ∧ ¬ nI 7 < x) = true := decide_eq_true ⟨fun z => q (Or.inl z), fun z => q (Or.inr z)⟩
    have q3 : y < nI 0 ∨ nI 5 < y := by
      rcases h with z | z | z | z
      · exact absurd (Or.inl z) q
      · exact absurd (Or.inr (le_lt1 (by decide) z)) q
      · exact Or.inl z
      · exact Or.inr z
    refine r_iload_n dX9_at_0 rfl ?_
    refine r_iconst (v := (nI 0)) dX9_at_1 (by decide) ?_
    refine r_bipush (v := (nI 7)) dX9_at_2 (by decide) ?_
    refine r_cS dX9_at_4 (m_isIn _ _ _ _) lX9_147 rfl rfl (by decide) ⟨Nat.le_refl _, Nat.le_refl _⟩ (Nat.le_of_ble_eq_true rfl) ?_
    rw [q2]
    refine r_if_eq 19 dX9_at_7 (by decide) (fun h7 => ?_) (fun h7 => ?_)
    · exact absurd h7 (by decide)
    · refine r_pc 10 rfl ?_
      refine r_iload_n dX9_at_10 rfl ?_
      refine r_iconst (v := (nI 0)) dX9_at_11 (by decide) ?_
      refine r_iconst (v := (nI 5)) dX9_at_12 (by decide) ?_
      refine r_cS dX9_at_13 (m_isIn _ _ _ _) lX9_147 rfl rfl (by decide) ⟨Nat.le_refl _, Nat.le_refl _⟩ (Nat.le_of_ble_eq_true rfl) ?_
      rw [out_dec q3]
      refine r_if_ne 21 dX9_at_16 (by decide) (fun h16 => ?_) (fun h16 => ?_)
      · exact absurd rfl h16
      · refine r_pc 19 rfl ?_
        refine r_iconst (v := (-1)) dX9_at_19 (by decide) ?_
        exact r_iretP dX9_at_20 rfl ⟨rfl, _, _, _, _, _, _, _, _, _, _, _, _, _, _, _, _, _, _, _, _, _, _, _, _, _, _, _, rfl, ⟨⟨s1, s2, s3, s4, s5, s6⟩, hB, hrx, hrw, hrz, hrk, hrl, hrd⟩⟩
theorem d_at_0 {d : Nat} (hR : RI L b n m cd Q ik kn kc kQ fn fr fz tal R w) (hd : d < 8) : SemP mX9_at 5 0 0 [.ref 100, .int (nI d), .int (nI 0)] w (Top (nI (sqc (Q n) d)) (RI L b n m cd Q ik kn kc kQ fn fr fz tal R)) := by
  obtain ⟨rc, rf, ro, rt, ru, rm, rg, rp, rq, ry, rl, wt, rk, rx, rz, rd, rT, rR, rN, rA, rF, rC, rO, rB, rY, rP, rb, rfl, ⟨s1, s2, s3, s4, s5, s6⟩, hB, hrx, hrw, hrz, hrk, hrl, hrd⟩ := hR
  have hm : m ≤ 200 := s4.1
  have hkn : kn ≤ 200 := s5.1
  have hL : L ≤ 120 := s1
  have s3 : n ≤ m := s3
  have hn : n ≤ 200 := Nat.le_trans s3 s4.1
  have s6 : fn ≤ 8 := s6
  have hrx : ∀ j, j < m → rx j = nI (cd j) := hrx
  have hrw : ∀ j, j ≤ m → wt j = bt (Q j) := hrw
  have hrl : ∀ j, j < fn → rl j = fr j := hrl
  have hrd : ∀ j, j < 12 → rd j = tal j := hrd
  have hQn : wt n = bt (Q n) := hrw n s3
  have hVn : Vq (Q n) := s4.2.2.1 n s3
  refine semP_of (by decide) (Nat.le_of_ble_eq_true rfl) rfl ?_
  refine r_iload_n dX9_at_0 rfl ?_
  refine r_iconst (v := (nI 0)) dX9_at_1 (by decide) ?_
  refine r_bipush (v := (nI 7)) dX9_at_2 (by decide) ?_
  refine r_cS dX9_at_4 (m_isIn _ _ _ _) lX9_147 rfl rfl (by decide) ⟨Nat.le_refl _, Nat.le_refl _⟩ (Nat.le_of_ble_eq_true rfl) ?_
  rw [in_dec (by omega) (by decide) (by decide) ⟨Nat.zero_le _, by omega⟩]
  refine r_if_eq 19 dX9_at_7 (by decide) (fun h7 => ?_) (fun h7 => ?_)
  · exact absurd h7 (by decide)
  · refine r_pc 10 rfl ?_
    refine r_iload_n dX9_at_10 rfl ?_
    refine r_iconst (v := (nI 0)) dX9_at_11 (by decide) ?_
    refine r_iconst (v := (nI 5)) dX9_at_12 (by decide) ?_
    refine r_cS dX9_at_13 (m_isIn _ _ _ _) lX9_147 rfl rfl (by decide) ⟨Nat.le_refl _, Nat.le_refl _⟩ (Nat.le_of_ble_eq_true rfl) ?_
    rw [in_dec (by decide) (by decide) (by decide) (by decide)]
    refine r_if_ne 21 dX9_at_16 (by decide) (fun h16 => ?_) (fun h16 => ?_)
    · refine r_pc 21 rfl ?_
      refine r_aload_n dX9_at_21 rfl ?_
      refine r_cVv dX9_at_22 (m_look hn hQn) lX9_255 rfl rfl rfl (by decide) ⟨Nat.le_refl _, Nat.le_refl _⟩ (Nat.le_of_ble_eq_true rfl) ?_
      refine r_iload_n dX9_at_25 rfl ?_
      refine r_iconst (v := (nI 2)) dX9_at_26 (by decide) ?_
      refine r_icmp_geN 50 dX9_at_27 (by decide) (by omega) (by omega) (fun h27 => ?_) (fun h27 => ?_)
      · exact absurd h27 (by decide)
      · refine r_pc 30 rfl ?_
        refine r_iload_n dX9_at_30 rfl ?_
        refine r_if_ne 43 dX9_at_31 (by decide) (fun h31 => ?_) (fun h31 => ?_)
        · exact absurd rfl h31
        · refine r_pc 34 rfl ?_
          refine r_aload_n dX9_at_34 rfl ?_
          refine r_get dX9_at_35 fX9_60 rfl rfl ?_
          refine r_iload_n dX9_at_38 rfl ?_
          refine r_iald dX9_at_39 rfl rfl hd (by decide) ?_
          refine r_topi _ (congrArg nI (bt_c (Q n) hd)) ?_
          refine r_goto 49 dX9_at_40 (by decide) ?_
          exact r_iretP dX9_at_49 rfl ⟨rfl, _, _, _, _, _, _, _, _, _, _, _, _, _, _, _, _, _, _, _, _, _, _, _, _, _, _, _, rfl, ⟨⟨s1, s2, s3, s4, s5, s6⟩, hB, hrx, hrw, hrz, hrk, hrl, hrd⟩⟩
    · exact absurd h16 (by decide)
theorem d_at_1 {d : Nat} (hR : RI L b n m cd Q ik kn kc kQ fn fr fz tal R w) (hd : d < 8) : SemP mX9_at 5 0 0 [.ref 100, .int (nI d), .int (nI 1)] w (Top (nI (sqf (Q n) d)) (RI L b n m cd Q ik kn kc kQ fn fr fz tal R)) := by
  obtain ⟨rc, rf, ro, rt, ru, rm, rg, rp, rq, ry, rl, wt, rk, rx, rz, rd, rT, rR, rN, rA, rF, rC, rO, rB, rY, rP, rb, rfl, ⟨s1, s2, s3, s4, s5, s6⟩, hB, hrx, hrw, hrz, hrk, hrl, hrd⟩ := hR
  have hm : m ≤ 200 := s4.1
  have hkn : kn ≤ 200 := s5.1
  have hL : L ≤ 120 := s1
  have s3 : n ≤ m := s3
  have hn : n ≤ 200 := Nat.le_trans s3 s4.1
  have s6 : fn ≤ 8 := s6
  have hrx : ∀ j, j < m → rx j = nI (cd j) := hrx
  have hrw : ∀ j, j ≤ m → wt j = bt (Q j) := hrw
  have hrl : ∀ j, j < fn → rl j = fr j := hrl
  have hrd : ∀ j, j < 12 → rd j = tal j := hrd
  have hQn : wt n = bt (Q n) := hrw n s3
  have hVn : Vq (Q n) := s4.2.2.1 n s3
  refine semP_of (by decide) (Nat.le_of_ble_eq_true rfl) rfl ?_
  refine r_iload_n dX9_at_0 rfl ?_
  refine r_iconst (v := (nI 0)) dX9_at_1 (by decide) ?_
  refine r_bipush (v := (nI 7)) dX9_at_2 (by decide) ?_
  refine r_cS dX9_at_4 (m_isIn _ _ _ _) lX9_147 rfl rfl (by decide) ⟨Nat.le_refl _, Nat.le_refl _⟩ (Nat.le_of_ble_eq_true rfl) ?_
  rw [in_dec (by omega) (by decide) (by decide) ⟨Nat.zero_le _, by omega⟩]
  refine r_if_eq 19 dX9_at_7 (by decide) (fun h7 => ?_) (fun h7 => ?_)
  · exact absurd h7 (by decide)
  · refine r_pc 10 rfl ?_
    refine r_iload_n dX9_at_10 rfl ?_
    refine r_iconst (v := (nI 0)) dX9_at_11 (by decide) ?_
    refine r_iconst (v := (nI 5)) dX9_at_12 (by decide) ?_
    refine r_cS dX9_at_13 (m_isIn _ _ _ _) lX9_147 rfl rfl (by decide) ⟨Nat.le_refl _, Nat.le_refl _⟩ (Nat.le_of_ble_eq_true rfl) ?_
    rw [in_dec (by decide) (by decide) (by decide) (by decide)]
    refine r_if_ne 21 dX9_at_16 (by decide) (fun h16 => ?_) (fun h16 => ?_)
    · refine r_pc 21 rfl ?_
      refine r_aload_n dX9_at_21 rfl ?_
      refine r_cVv dX9_at_22 (m_look hn hQn) lX9_255 rfl rfl rfl (by decide) ⟨Nat.le_refl _, Nat.le_refl _⟩ (Nat.le_of_ble_eq_true rfl) ?_
      refine r_iload_n dX9_at_25 rfl ?_
      refine r_iconst (v := (nI 2)) dX9_at_26 (by decide) ?_
      refine r_icmp_geN 50 dX9_at_27 (by decide) (by omega) (by omega) (fun h27 => ?_) (fun h27 => ?_)
      · exact absurd h27 (by decide)
      · refine r_pc 30 rfl ?_
        refine r_iload_n dX9_at_30 rfl ?_
        refine r_if_ne 43 dX9_at_31 (by decide) (fun h31 => ?_) (fun h31 => ?_)
        · refine r_pc 43 rfl ?_
          refine r_aload_n dX9_at_43 rfl ?_
          refine r_get dX9_at_44 fX9_64 rfl rfl ?_
          refine r_iload_n dX9_at_47 rfl ?_
          refine r_iald dX9_at_48 rfl rfl hd (by decide) ?_
          refine r_topi _ (congrArg nI (bt_f (Q n) hd)) ?_
          exact r_iretP dX9_at_49 rfl ⟨rfl, _, _, _, _, _, _, _, _, _, _, _, _, _, _, _, _, _, _, _, _, _, _, _, _, _, _, _, rfl, ⟨⟨s1, s2, s3, s4, s5, s6⟩, hB, hrx, hrw, hrz, hrk, hrl, hrd⟩⟩
        · exact absurd h31 (by decide)
    · exact absurd h16 (by decide)
theorem d_at_2 {d : Nat} (hR : RI L b n m cd Q ik kn kc kQ fn fr fz tal R w) (hd : d < 8) : SemP mX9_at 5 0 0 [.ref 100, .int (nI d), .int (nI 2)] w (Top (stN (bes (sqc (Q n)) (sqf (Q n)) d 0)) (RI L b n m cd Q ik kn kc kQ fn fr fz tal R)) := by
  obtain ⟨rc, rf, ro, rt, ru, rm, rg, rp, rq, ry, rl, wt, rk, rx, rz, rd, rT, rR, rN, rA, rF, rC, rO, rB, rY, rP, rb, rfl, ⟨s1, s2, s3, s4, s5, s6⟩, hB, hrx, hrw, hrz, hrk, hrl, hrd⟩ := hR
  have hm : m ≤ 200 := s4.1
  have hkn : kn ≤ 200 := s5.1
  have hL : L ≤ 120 := s1
  have s3 : n ≤ m := s3
  have hn : n ≤ 200 := Nat.le_trans s3 s4.1
  have s6 : fn ≤ 8 := s6
  have hrx : ∀ j, j < m → rx j = nI (cd j) := hrx
  have hrw : ∀ j, j ≤ m → wt j = bt (Q j) := hrw
  have hrl : ∀ j, j < fn → rl j = fr j := hrl
  have hrd : ∀ j, j < 12 → rd j = tal j := hrd
  have hQn : wt n = bt (Q n) := hrw n s3
  have hVn : Vq (Q n) := s4.2.2.1 n s3
  refine semP_of (by decide) (Nat.le_of_ble_eq_true rfl) rfl ?_
  refine r_iload_n dX9_at_0 rfl ?_
  refine r_iconst (v := (nI 0)) dX9_at_1 (by decide) ?_
  refine r_bipush (v := (nI 7)) dX9_at_2 (by decide) ?_
  refine r_cS dX9_at_4 (m_isIn _ _ _ _) lX9_147 rfl rfl (by decide) ⟨Nat.le_refl _, Nat.le_refl _⟩ (Nat.le_of_ble_eq_true rfl) ?_
  rw [in_dec (by omega) (by decide) (by decide) ⟨Nat.zero_le _, by omega⟩]
  refine r_if_eq 19 dX9_at_7 (by decide) (fun h7 => ?_) (fun h7 => ?_)
  · exact absurd h7 (by decide)
  · refine r_pc 10 rfl ?_
    refine r_iload_n dX9_at_10 rfl ?_
    refine r_iconst (v := (nI 0)) dX9_at_11 (by decide) ?_
    refine r_iconst (v := (nI 5)) dX9_at_12 (by decide) ?_
    refine r_cS dX9_at_13 (m_isIn _ _ _ _) lX9_147 rfl rfl (by decide) ⟨Nat.le_refl _, Nat.le_refl _⟩ (Nat.le_of_ble_eq_true rfl) ?_
    rw [in_dec (by decide) (by decide) (by decide) (by decide)]
    refine r_if_ne 21 dX9_at_16 (by decide) (fun h16 => ?_) (fun h16 => ?_)
    · refine r_pc 21 rfl ?_
      refine r_aload_n dX9_at_21 rfl ?_
      refine r_cVv dX9_at_22 (m_look hn hQn) lX9_255 rfl rfl rfl (by decide) ⟨Nat.le_refl _, Nat.le_refl _⟩ (Nat.le_of_ble_eq_true rfl) ?_
      refine r_iload_n dX9_at_25 rfl ?_
      refine r_iconst (v := (nI 2)) dX9_at_26 (by decide) ?_
      refine r_icmp_geN 50 dX9_at_27 (by decide) (by omega) (by omega) (fun h27 => ?_) (fun h27 => ?_)
      · refine r_pc 50 rfl ?_
        refine r_aload_n dX9_at_50 rfl ?_
        refine r_iload_n dX9_at_51 rfl ?_
        refine r_iload_n dX9_at_52 rfl ?_
        refine r_iconst (v := (nI 2)) dX9_at_53 (by decide) ?_
        refine r_icmp_ne 61 dX9_at_54 (by decide) (fun h54 => ?_) (fun h54 => ?_)
        · exact absurd rfl h54
        · refine r_pc 57 rfl ?_
          refine r_iconst (v := (nI 0)) dX9_at_57 (by decide) ?_
          refine r_goto 80 dX9_at_58 (by decide) ?_
          refine r_cV dX9_at_80 (m_beside hd (by decide) (Sq_bt _) (Sd_bt _)) lX9_162 rfl rfl rfl (by decide) ⟨Nat.le_refl _, Nat.le_refl _⟩ (Nat.le_of_ble_eq_true rfl) ?_
          exact r_iretP dX9_at_83 rfl ⟨rfl, _, _, _, _, _, _, _, _, _, _, _, _, _, _, _, _, _, _, _, _, _, _, _, _, _, _, _, rfl, ⟨⟨s1, s2, s3, s4, s5, s6⟩, hB, hrx, hrw, hrz, hrk, hrl, hrd⟩⟩
      · exact absurd h27 (by decide)
    · exact absurd h16 (by decide)
theorem d_at_3 {d : Nat} (hR : RI L b n m cd Q ik kn kc kQ fn fr fz tal R w) (hd : d < 8) : SemP mX9_at 5 0 0 [.ref 100, .int (nI d), .int (nI 3)] w (Top (stN (bes (sqc (Q n)) (sqf (Q n)) d 1)) (RI L b n m cd Q ik kn kc kQ fn fr fz tal R)) := by
  obtain ⟨rc, rf, ro, rt, ru, rm, rg, rp, rq, ry, rl, wt, rk, rx, rz, rd, rT, rR, rN, rA, rF, rC, rO, rB, rY, rP, rb, rfl, ⟨s1, s2, s3, s4, s5, s6⟩, hB, hrx, hrw, hrz, hrk, hrl, hrd⟩ := hR
  have hm : m ≤ 200 := s4.1
  have hkn : kn ≤ 200 := s5.1
  have hL : L ≤ 120 := s1
  have s3 : n ≤ m := s3
  have hn : n ≤ 200 := Nat.le_trans s3 s4.1
  have s6 : fn ≤ 8 := s6
  have hrx : ∀ j, j < m → rx j = nI (cd j) := hrx
  have hrw : ∀ j, j ≤ m → wt j = bt (Q j) := hrw
  have hrl : ∀ j, j < fn → rl j = fr j := hrl
  have hrd : ∀ j, j < 12 → rd j = tal j := hrd
  have hQn : wt n = bt (Q n) := hrw n s3
  have hVn : Vq (Q n) := s4.2.2.1 n s3
  refine semP_of (by decide) (Nat.le_of_ble_eq_true rfl) rfl ?_
  refine r_iload_n dX9_at_0 rfl ?_
  refine r_iconst (v := (nI 0)) dX9_at_1 (by decide) ?_
  refine r_bipush (v := (nI 7)) dX9_at_2 (by decide) ?_
  refine r_cS dX9_at_4 (m_isIn _ _ _ _) lX9_147 rfl rfl (by decide) ⟨Nat.le_refl _, Nat.le_refl _⟩ (Nat.le_of_ble_eq_true rfl) ?_
  rw [in_dec (by omega) (by decide) (by decide) ⟨Nat.zero_le _, by omega⟩]
  refine r_if_eq 19 dX9_at_7 (by decide) (fun h7 => ?_) (fun h7 => ?_)
  · exact absurd h7 (by decide)
  · refine r_pc 10 rfl ?_
    refine r_iload_n dX9_at_10 rfl ?_
    refine r_iconst (v := (nI 0)) dX9_at_11 (by decide) ?_
    refine r_iconst (v := (nI 5)) dX9_at_12 (by decide) ?_
    refine r_cS dX9_at_13 (m_isIn _ _ _ _) lX9_147 rfl rfl (by decide) ⟨Nat.le_refl _, Nat.le_refl _⟩ (Nat.le_of_ble_eq_true rfl) ?_
    rw [in_dec (by decide) (by decide) (by decide) (by decide)]
    refine r_if_ne 21 dX9_at_16 (by decide) (fun h16 => ?_) (fun h16 => ?_)
    · refine r_pc 21 rfl ?_
      refine r_aload_n dX9_at_21 rfl ?_
      refine r_cVv dX9_at_22 (m_look hn hQn) lX9_255 rfl rfl rfl (by decide) ⟨Nat.le_refl _, Nat.le_refl _⟩ (Nat.le_of_ble_eq_true rfl) ?_
      refine r_iload_n dX9_at_25 rfl ?_
      refine r_iconst (v := (nI 2)) dX9_at_26 (by decide) ?_
      refine r_icmp_geN 50 dX9_at_27 (by decide) (by omega) (by omega) (fun h27 => ?_) (fun h27 => ?_)
      · refine r_pc 50 rfl ?_
        refine r_aload_n dX9_at_50 rfl ?_
        refine r_iload_n dX9_at_51 rfl ?_
        refine r_iload_n dX9_at_52 rfl ?_
        refine r_iconst (v := (nI 2)) dX9_at_53 (by decide) ?_
        refine r_icmp_ne 61 dX9_at_54 (by decide) (fun h54 => ?_) (fun h54 => ?_)
        · refine r_pc 61 rfl ?_
          refine r_iload_n dX9_at_61 rfl ?_
          refine r_iconst (v := (nI 3)) dX9_at_62 (by decide) ?_
          refine r_icmp_ne 70 dX9_at_63 (by decide) (fun h63 => ?_) (fun h63 => ?_)
          · exact absurd rfl h63
          · refine r_pc 66 rfl ?_
            refine r_iconst (v := (nI 1)) dX9_at_66 (by decide) ?_
            refine r_goto 80 dX9_at_67 (by decide) ?_
            refine r_cV dX9_at_80 (m_beside hd (by decide) (Sq_bt _) (Sd_bt _)) lX9_162 rfl rfl rfl (by decide) ⟨Nat.le_refl _, Nat.le_refl _⟩ (Nat.le_of_ble_eq_true rfl) ?_
            exact r_iretP dX9_at_83 rfl ⟨rfl, _, _, _, _, _, _, _, _, _, _, _, _, _, _, _, _, _, _, _, _, _, _, _, _, _, _, _, rfl, ⟨⟨s1, s2, s3, s4, s5, s6⟩, hB, hrx, hrw, hrz, hrk, hrl, hrd⟩⟩
        · exact absurd h54 (by decide)
      · exact absurd h27 (by decide)
    · exact absurd h16 (by decide)
theorem d_at_4 {d : Nat} (hR : RI L b n m cd Q ik kn kc kQ fn fr fz tal R w) (hd : d < 8) : SemP mX9_at 5 0 0 [.ref 100, .int (nI d), .int (nI 4)] w (Top (stN (bes (sqc (Q n)) (sqf (Q n)) d 3)) (RI L b n m cd Q ik kn kc kQ fn fr fz tal R)) := by
  obtain ⟨rc, rf, ro, rt, ru, rm, rg, rp, rq, ry, rl, wt, rk, rx, rz, rd, rT, rR, rN, rA, rF, rC, rO, rB, rY, rP, rb, rfl, ⟨s1, s2, s3, s4, s5, s6⟩, hB, hrx, hrw, hrz, hrk, hrl, hrd⟩ := hR
  have hm : m ≤ 200 := s4.1
  have hkn : kn ≤ 200 := s5.1
  have hL : L ≤ 120 := s1
  have s3 : n ≤ m := s3
  have hn : n ≤ 200 := Nat.le_trans s3 s4.1
  have s6 : fn ≤ 8 := s6
  have hrx : ∀ j, j < m → rx j = nI (cd j) := hrx
  have hrw : ∀ j, j ≤ m → wt j = bt (Q j) := hrw
  have hrl : ∀ j, j < fn → rl j = fr j := hrl
  have hrd : ∀ j, j < 12 → rd j = tal j := hrd
  have hQn : wt n = bt (Q n) := hrw n s3
  have hVn : Vq (Q n) := s4.2.2.1 n s3
  refine semP_of (by decide) (Nat.le_of_ble_eq_true rfl) rfl ?_
  refine r_iload_n dX9_at_0 rfl ?_
  refine r_iconst (v := (nI 0)) dX9_at_1 (by decide) ?_
  refine r_bipush (v := (nI 7)) dX9_at_2 (by decide) ?_
  refine r_cS dX9_at_4 (m_isIn _ _ _ _) lX9_147 rfl rfl (by decide) ⟨Nat.le_refl _, Nat.le_refl _⟩ (Nat.le_of_ble_eq_true rfl) ?_
  rw [in_dec (by omega) (by decide) (by decide) ⟨Nat.zero_le _, by omega⟩]
  refine r_if_eq 19 dX9_at_7 (by decide) (fun h7 => ?_) (fun h7 => ?_)
  · exact absurd h7 (by decide)
  · refine r_pc 10 rfl ?_
    refine r_iload_n dX9_at_10 rfl ?_
    refine r_iconst (v := (nI 0)) dX9_at_11 (by decide) ?_
    refine r_iconst (v := (nI 5)) dX9_at_12 (by decide) ?_
    refine r_cS dX9_at_13 (m_isIn _ _ _ _) lX9_147 rfl rfl (by decide) ⟨Nat.le_refl _, Nat.le_refl _⟩ (Nat.le_of_ble_eq_true rfl) ?_
    rw [in_dec (by decide) (by decide) (by decide) (by decide)]
    refine r_if_ne 21 dX9_at_16 (by decide) (fun h16 => ?_) (fun h16 => ?_)
    · refine r_pc 21 rfl ?_
      refine r_aload_n dX9_at_21 rfl ?_
      refine r_cVv dX9_at_22 (m_look hn hQn) lX9_255 rfl rfl rfl (by decide) ⟨Nat.le_refl _, Nat.le_refl _⟩ (Nat.le_of_ble_eq_true rfl) ?_
      refine r_iload_n dX9_at_25 rfl ?_
      refine r_iconst (v := (nI 2)) dX9_at_26 (by decide) ?_
      refine r_icmp_geN 50 dX9_at_27 (by decide) (by omega) (by omega) (fun h27 => ?_) (fun h27 => ?_)
      · refine r_pc 50 rfl ?_
        refine r_aload_n dX9_at_50 rfl ?_
        refine r_iload_n dX9_at_51 rfl ?_
        refine r_iload_n dX9_at_52 rfl ?_
        refine r_iconst (v := (nI 2)) dX9_at_53 (by decide) ?_
        refine r_icmp_ne 61 dX9_at_54 (by decide) (fun h54 => ?_) (fun h54 => ?_)
        · refine r_pc 61 rfl ?_
          refine r_iload_n dX9_at_61 rfl ?_
          refine r_iconst (v := (nI 3)) dX9_at_62 (by decide) ?_
          refine r_icmp_ne 70 dX9_at_63 (by decide) (fun h63 => ?_) (fun h63 => ?_)
          · refine r_pc 70 rfl ?_
            refine r_iload_n dX9_at_70 rfl ?_
            refine r_iconst (v := (nI 4)) dX9_at_71 (by decide) ?_
            refine r_icmp_ne 79 dX9_at_72 (by decide) (fun h72 => ?_) (fun h72 => ?_)
            · exact absurd rfl h72
            · refine r_pc 75 rfl ?_
              refine r_iconst (v := (nI 3)) dX9_at_75 (by decide) ?_
              refine r_goto 80 dX9_at_76 (by decide) ?_
              refine r_cV dX9_at_80 (m_beside hd (by decide) (Sq_bt _) (Sd_bt _)) lX9_162 rfl rfl rfl (by decide) ⟨Nat.le_refl _, Nat.le_refl _⟩ (Nat.le_of_ble_eq_true rfl) ?_
              exact r_iretP dX9_at_83 rfl ⟨rfl, _, _, _, _, _, _, _, _, _, _, _, _, _, _, _, _, _, _, _, _, _, _, _, _, _, _, _, rfl, ⟨⟨s1, s2, s3, s4, s5, s6⟩, hB, hrx, hrw, hrz, hrk, hrl, hrd⟩⟩
          · exact absurd h63 (by decide)
        · exact absurd h54 (by decide)
      · exact absurd h27 (by decide)
    · exact absurd h16 (by decide)
theorem d_at_5 {d : Nat} (hR : RI L b n m cd Q ik kn kc kQ fn fr fz tal R w) (hd : d < 8) : SemP mX9_at 5 0 0 [.ref 100, .int (nI d), .int (nI 5)] w (Top (stN (bes (sqc (Q n)) (sqf (Q n)) d 2)) (RI L b n m cd Q ik kn kc kQ fn fr fz tal R)) := by
  obtain ⟨rc, rf, ro, rt, ru, rm, rg, rp, rq, ry, rl, wt, rk, rx, rz, rd, rT, rR, rN, rA, rF, rC, rO, rB, rY, rP, rb, rfl, ⟨s1, s2, s3, s4, s5, s6⟩, hB, hrx, hrw, hrz, hrk, hrl, hrd⟩ := hR
  have hm : m ≤ 200 := s4.1
  have hkn : kn ≤ 200 := s5.1
  have hL : L ≤ 120 := s1
  have s3 : n ≤ m := s3
  have hn : n ≤ 200 := Nat.le_trans s3 s4.1
  have s6 : fn ≤ 8 := s6
  have hrx : ∀ j, j < m → rx j = nI (cd j) := hrx
  have hrw : ∀ j, j ≤ m → wt j = bt (Q j) := hrw
  have hrl : ∀ j, j < fn → rl j = fr j := hrl
  have hrd : ∀ j, j < 12 → rd j = tal j := hrd
  have hQn : wt n = bt (Q n) := hrw n s3
  have hVn : Vq (Q n) := s4.2.2.1 n s3
  refine semP_of (by decide) (Nat.le_of_ble_eq_true rfl) rfl ?_
  refine r_iload_n dX9_at_0 rfl ?_
  refine r_iconst (v := (nI 0)) dX9_at_1 (by decide) ?_
  refine r_bipush (v := (nI 7)) dX9_at_2 (by decide) ?_
  refine r_cS dX9_at_4 (m_isIn _ _ _ _) lX9_147 rfl rfl (by decide) ⟨Nat.le_refl _, Nat.le_refl _⟩ (Nat.le_of_ble_eq_true rfl) ?_
  rw [in_dec (by omega) (by decide) (by decide) ⟨Nat.zero_le _, by omega⟩]
  refine r_if_eq 19 dX9_at_7 (by decide) (fun h7 => ?_) (fun h7 => ?_)
  · exact absurd h7 (by decide)
  · refine r_pc 10 rfl ?_
    refine r_iload_n dX9_at_10 rfl ?_
    refine r_iconst (v := (nI 0)) dX9_at_11 (by decide) ?_
    refine r_iconst (v := (nI 5)) dX9_at_12 (by decide) ?_
    refine r_cS dX9_at_13 (m_isIn _ _ _ _) lX9_147 rfl rfl (by decide) ⟨Nat.le_refl _, Nat.le_refl _⟩ (Nat.le_of_ble_eq_true rfl) ?_
    rw [in_dec (by decide) (by decide) (by decide) (by decide)]
    refine r_if_ne 21 dX9_at_16 (by decide) (fun h16 => ?_) (fun h16 => ?_)
    · refine r_pc 21 rfl ?_
      refine r_aload_n dX9_at_21 rfl ?_
      refine r_cVv dX9_at_22 (m_look hn hQn) lX9_255 rfl rfl rfl (by decide) ⟨Nat.le_refl _, Nat.le_refl _⟩ (Nat.le_of_ble_eq_true rfl) ?_
      refine r_iload_n dX9_at_25 rfl ?_
      refine r_iconst (v := (nI 2)) dX9_at_26 (by decide) ?_
      refine r_icmp_geN 50 dX9_at_27 (by decide) (by omega) (by omega) (fun h27 => ?_) (fun h27 => ?_)
      · refine r_pc 50 rfl ?_
        refine r_aload_n dX9_at_50 rfl ?_
        refine r_iload_n dX9_at_51 rfl ?_
        refine r_iload_n dX9_at_52 rfl ?_
        refine r_iconst (v := (nI 2)) dX9_at_53 (by decide) ?_
        refine r_icmp_ne 61 dX9_at_54 (by decide) (fun h54 => ?_) (fun h54 => ?_)
        · refine r_pc 61 rfl ?_
          refine r_iload_n dX9_at_61 rfl ?_
          refine r_iconst (v := (nI 3)) dX9_at_62 (by decide) ?_
          refine r_icmp_ne 70 dX9_at_63 (by decide) (fun h63 => ?_) (fun h63 => ?_)
          · refine r_pc 70 rfl ?_
            refine r_iload_n dX9_at_70 rfl ?_
            refine r_iconst (v := (nI 4)) dX9_at_71 (by decide) ?_
            refine r_icmp_ne 79 dX9_at_72 (by decide) (fun h72 => ?_) (fun h72 => ?_)
            · refine r_pc 79 rfl ?_
              refine r_iconst (v := (nI 2)) dX9_at_79 (by decide) ?_
              refine r_cV dX9_at_80 (m_beside hd (by decide) (Sq_bt _) (Sd_bt _)) lX9_162 rfl rfl rfl (by decide) ⟨Nat.le_refl _, Nat.le_refl _⟩ (Nat.le_of_ble_eq_true rfl) ?_
              exact r_iretP dX9_at_83 rfl ⟨rfl, _, _, _, _, _, _, _, _, _, _, _, _, _, _, _, _, _, _, _, _, _, _, _, _, _, _, _, rfl, ⟨⟨s1, s2, s3, s4, s5, s6⟩, hB, hrx, hrw, hrz, hrk, hrl, hrd⟩⟩
            · exact absurd h72 (by decide)
          · exact absurd h63 (by decide)
        · exact absurd h54 (by decide)
      · exact absurd h27 (by decide)
    · exact absurd h16 (by decide)
theorem d_on0 {x : Int32} (hR : RI L b n m cd Q ik kn kc kQ fn fr fz tal R w) (h : x < 0 ∨ nI 16 ≤ x) : SemP mX9_on 5 0 0 [.ref 100, .int x] w (Top (-1) (RI L b n m cd Q ik kn kc kQ fn fr fz tal R)) := by
  obtain ⟨rc, rf, ro, rt, ru, rm, rg, rp, rq, ry, rl, wt, rk, rx, rz, rd, rT, rR, rN, rA, rF, rC, rO, rB, rY, rP, rb, rfl, ⟨s1, s2, s3, s4, s5, s6⟩, hB, hrx, hrw, hrz, hrk, hrl, hrd⟩ := hR
  have hm : m ≤ 200 := s4.1
  have hkn : kn ≤ 200 := s5.1
  have hL : L ≤ 120 := s1
  have s3 : n ≤ m := s3
  have hn : n ≤ 200 := Nat.le_trans s3 s4.1
  have s6 : fn ≤ 8 := s6
  have hrx : ∀ j, j < m → rx j = nI (cd j) := hrx
  have hrw : ∀ j, j ≤ m → wt j = bt (Q j) := hrw
  have hrl : ∀ j, j < fn → rl j = fr j := hrl
  have hrd : ∀ j, j < 12 → rd j = tal j := hrd
  have hQn : wt n = bt (Q n) := hrw n s3
  have hVn : Vq (Q n) := s4.2.2.1 n s3
  refine semP_of (by decide) (Nat.le_of_ble_eq_true rfl) rfl ?_
  refine r_iload_n dX9_on_0 rfl ?_
  refine r_iconst (v := (nI 0)) dX9_on_1 (by decide) ?_
  refine r_bipush (v := (nI 15)) dX9_on_2 (by decide) ?_
  refine r_cS dX9_on_4 (m_isIn _ _ _ _) lX9_147 rfl rfl (by decide) ⟨Nat.le_refl _, Nat.le_refl _⟩ (Nat.le_of_ble_eq_true rfl) ?_
  rw [out_dec (a := nI 0) (h.imp id (le_lt1 (by decide)))]
  refine r_if_ne 12 dX9_on_7 (by decide) (fun h7 => ?_) (fun h7 => ?_)
  · exact absurd rfl h7
  · refine r_pc 10 rfl ?_
    refine r_iconst (v := (-1)) dX9_on_10 (by decide) ?_
    exact r_iretP dX9_on_11 rfl ⟨rfl, _, _, _, _, _, _, _, _, _, _, _, _, _, _, _, _, _, _, _, _, _, _, _, _, _, _, _, rfl, ⟨⟨s1, s2, s3, s4, s5, s6⟩, hB, hrx, hrw, hrz, hrk, hrl, hrd⟩⟩
theorem d_on1 {x : Nat} (hR : RI L b n m cd Q ik kn kc kQ fn fr fz tal R w) (h : x < 16) : SemP mX9_on 5 0 0 [.ref 100, .int (nI x)] w (Top (stN (who (sqc (Q n)) 8 x)) (RI L b n m cd Q ik kn kc kQ fn fr fz tal R)) := by
  obtain ⟨rc, rf, ro, rt, ru, rm, rg, rp, rq, ry, rl, wt, rk, rx, rz, rd, rT, rR, rN, rA, rF, rC, rO, rB, rY, rP, rb, rfl, ⟨s1, s2, s3, s4, s5, s6⟩, hB, hrx, hrw, hrz, hrk, hrl, hrd⟩ := hR
  have hm : m ≤ 200 := s4.1
  have hkn : kn ≤ 200 := s5.1
  have hL : L ≤ 120 := s1
  have s3 : n ≤ m := s3
  have hn : n ≤ 200 := Nat.le_trans s3 s4.1
  have s6 : fn ≤ 8 := s6
  have hrx : ∀ j, j < m → rx j = nI (cd j) := hrx
  have hrw : ∀ j, j ≤ m → wt j = bt (Q j) := hrw
  have hrl : ∀ j, j < fn → rl j = fr j := hrl
  have hrd : ∀ j, j < 12 → rd j = tal j := hrd
  have hQn : wt n = bt (Q n) := hrw n s3
  have hVn : Vq (Q n) := s4.2.2.1 n s3
  refine semP_of (by decide) (Nat.le_of_ble_eq_true rfl) rfl ?_
  refine r_iload_n dX9_on_0 rfl ?_
  refine r_iconst (v := (nI 0)) dX9_on_1 (by decide) ?_
  refine r_bipush (v := (nI 15)) dX9_on_2 (by decide) ?_
  refine r_cS dX9_on_4 (m_isIn _ _ _ _) lX9_147 rfl rfl (by decide) ⟨Nat.le_refl _, Nat.le_refl _⟩ (Nat.le_of_ble_eq_true rfl) ?_
  rw [in_dec (by omega) (by decide) (by decide) ⟨Nat.zero_le _, by omega⟩]
  refine r_if_ne 12 dX9_on_7 (by decide) (fun h7 => ?_) (fun h7 => ?_)
  · refine r_pc 12 rfl ?_
    refine r_aload_n dX9_on_12 rfl ?_
    refine r_cVv dX9_on_13 (m_look hn hQn) lX9_255 rfl rfl rfl (by decide) ⟨Nat.le_refl _, Nat.le_refl _⟩ (Nat.le_of_ble_eq_true rfl) ?_
    refine r_aload_n dX9_on_16 rfl ?_
    refine r_get dX9_on_17 fX9_67 rfl rfl ?_
    refine r_iload_n dX9_on_20 rfl ?_
    refine r_pc 21 rfl ?_
    refine r_iald dX9_on_21 rfl rfl h (by decide) ?_
    refine r_topi _ (Sd_bt (Q n) x h) ?_
    exact r_iretP dX9_on_22 rfl ⟨rfl, _, _, _, _, _, _, _, _, _, _, _, _, _, _, _, _, _, _, _, _, _, _, _, _, _, _, _, rfl, ⟨⟨s1, s2, s3, s4, s5, s6⟩, hB, hrx, hrw, hrz, hrk, hrl, hrd⟩⟩
  · exact absurd h7 (by decide)
theorem d_meant0 {x : Int32} (hR : RI L b n m cd Q ik kn kc kQ fn fr fz tal R w) (h : x < 0 ∨ nI 9 ≤ x) : SemP mX9_meant 6 0 0 [.ref 100, .int x] w (Top (-1) (RI L b n m cd Q ik kn kc kQ fn fr fz tal R)) := by
  obtain ⟨rc, rf, ro, rt, ru, rm, rg, rp, rq, ry, rl, wt, rk, rx, rz, rd, rT, rR, rN, rA, rF, rC, rO, rB, rY, rP, rb, rfl, ⟨s1, s2, s3, s4, s5, s6⟩, hB, hrx, hrw, hrz, hrk, hrl, hrd⟩ := hR
  have hm : m ≤ 200 := s4.1
  have hkn : kn ≤ 200 := s5.1
  have hL : L ≤ 120 := s1
  have s3 : n ≤ m := s3
  have hn : n ≤ 200 := Nat.le_trans s3 s4.1
  have s6 : fn ≤ 8 := s6
  have hrx : ∀ j, j < m → rx j = nI (cd j) := hrx
  have hrw : ∀ j, j ≤ m → wt j = bt (Q j) := hrw
  have hrl : ∀ j, j < fn → rl j = fr j := hrl
  have hrd : ∀ j, j < 12 → rd j = tal j := hrd
  have hQn : wt n = bt (Q n) := hrw n s3
  have hVn : Vq (Q n) := s4.2.2.1 n s3
  refine semP_of (by decide) (Nat.le_of_ble_eq_true rfl) rfl ?_
  refine r_iload_n dX9_meant_0 rfl ?_
  refine r_iconst (v := (nI 0)) dX9_meant_1 (by decide) ?_
  refine r_bipush (v := (nI 8)) dX9_meant_2 (by decide) ?_
  refine r_cS dX9_meant_4 (m_isIn _ _ _ _) lX9_147 rfl rfl (by decide) ⟨Nat.le_refl _, Nat.le_refl _⟩ (Nat.le_of_ble_eq_true rfl) ?_
  rw [out_dec (a := nI 0) (h.imp id (le_lt1 (by decide)))]
  refine r_if_ne 12 dX9_meant_7 (by decide) (fun h7 => ?_) (fun h7 => ?_)
  · exact absurd rfl h7
  · refine r_pc 10 rfl ?_
    refine r_iconst (v := (-1)) dX9_meant_10 (by decide) ?_
    exact r_iretP dX9_meant_11 rfl ⟨rfl, _, _, _, _, _, _, _, _, _, _, _, _, _, _, _, _, _, _, _, _, _, _, _, _, _, _, _, rfl, ⟨⟨s1, s2, s3, s4, s5, s6⟩, hB, hrx, hrw, hrz, hrk, hrl, hrd⟩⟩
theorem d_meant1 {x : Nat} (hR : RI L b n m cd Q ik kn kc kQ fn fr fz tal R w) (h : x < 9) : SemP mX9_meant 6 0 0 [.ref 100, .int (nI x)] w (Top (mbI (mnt (sqc (Q n)) (sqf (Q n)) x) 8) (RI L b n m cd Q ik kn kc kQ fn fr fz tal R)) := by
  obtain ⟨rc, rf, ro, rt, ru, rm, rg, rp, rq, ry, rl, wt, rk, rx, rz, rd, rT, rR, rN, rA, rF, rC, rO, rB, rY, rP, rb, rfl, ⟨s1, s2, s3, s4, s5, s6⟩, hB, hrx, hrw, hrz, hrk, hrl, hrd⟩ := hR
  have hm : m ≤ 200 := s4.1
  have hkn : kn ≤ 200 := s5.1
  have hL : L ≤ 120 := s1
  have s3 : n ≤ m := s3
  have hn : n ≤ 200 := Nat.le_trans s3 s4.1
  have s6 : fn ≤ 8 := s6
  have hrx : ∀ j, j < m → rx j = nI (cd j) := hrx
  have hrw : ∀ j, j ≤ m → wt j = bt (Q j) := hrw
  have hrl : ∀ j, j < fn → rl j = fr j := hrl
  have hrd : ∀ j, j < 12 → rd j = tal j := hrd
  have hQn : wt n = bt (Q n) := hrw n s3
  have hVn : Vq (Q n) := s4.2.2.1 n s3
  refine semP_of (by decide) (Nat.le_of_ble_eq_true rfl) rfl ?_
  refine r_iload_n dX9_meant_0 rfl ?_
  refine r_iconst (v := (nI 0)) dX9_meant_1 (by decide) ?_
  refine r_bipush (v := (nI 8)) dX9_meant_2 (by decide) ?_
  refine r_cS dX9_meant_4 (m_isIn _ _ _ _) lX9_147 rfl rfl (by decide) ⟨Nat.le_refl _, Nat.le_refl _⟩ (Nat.le_of_ble_eq_true rfl) ?_
  rw [in_dec (by omega) (by decide) (by decide) ⟨Nat.zero_le _, by omega⟩]
  refine r_if_ne 12 dX9_meant_7 (by decide) (fun h7 => ?_) (fun h7 => ?_)
  · refine r_pc 12 rfl ?_
    refine r_aload_n dX9_meant_12 rfl ?_
    refine r_cVv dX9_meant_13 (m_look hn hQn) lX9_255 rfl rfl rfl (by decide) ⟨Nat.le_refl _, Nat.le_refl _⟩ (Nat.le_of_ble_eq_true rfl) ?_
    refine r_aload_n dX9_meant_16 rfl ?_
    refine r_iload_n dX9_meant_17 rfl ?_
    refine r_cV dX9_meant_18 (m_meantBy h (Sq_bt _) (Sd_bt _)) lX9_196 rfl rfl rfl (by decide) ⟨Nat.le_refl _, Nat.le_refl _⟩ (Nat.le_of_ble_eq_true rfl) ?_
    refine r_pc 21 rfl ?_
    exact r_iretP dX9_meant_21 rfl ⟨rfl, _, _, _, _, _, _, _, _, _, _, _, _, _, _, _, _, _, _, _, _, _, _, _, _, _, _, _, rfl, ⟨⟨s1, s2, s3, s4, s5, s6⟩, hB, hrx, hrw, hrz, hrk, hrl, hrd⟩⟩
  · exact absurd h7 (by decide)
theorem d_fall_b {x : Int32} (hR : RI L b n m cd Q ik kn kc kQ fn fr fz tal R w) (h : x < -1) : SemP mX9_fall 3 0 0 [.ref 100, .int x] w (Top (-1) (RI L b n m cd Q ik kn kc kQ fn fr fz tal R)) := by
  obtain ⟨rc, rf, ro, rt, ru, rm, rg, rp, rq, ry, rl, wt, rk, rx, rz, rd, rT, rR, rN, rA, rF, rC, rO, rB, rY, rP, rb, rfl, ⟨s1, s2, s3, s4, s5, s6⟩, hB, hrx, hrw, hrz, hrk, hrl, hrd⟩ := hR
  have hm : m ≤ 200 := s4.1
  have hkn : kn ≤ 200 := s5.1
  have hL : L ≤ 120 := s1
  have s3 : n ≤ m := s3
  have hn : n ≤ 200 := Nat.le_trans s3 s4.1
  have s6 : fn ≤ 8 := s6
  have hrx : ∀ j, j < m → rx j = nI (cd j) := hrx
  have hrw : ∀ j, j ≤ m → wt j = bt (Q j) := hrw
  have hrl : ∀ j, j < fn → rl j = fr j := hrl
  have hrd : ∀ j, j < 12 → rd j = tal j := hrd
  have hQn : wt n = bt (Q n) := hrw n s3
  have hVn : Vq (Q n) := s4.2.2.1 n s3
  refine semP_of (by decide) (Nat.le_of_ble_eq_true rfl) rfl ?_
  refine r_iload_n dX9_fall_0 rfl ?_
  refine r_iconst (v := (-1)) dX9_fall_1 (by decide) ?_
  refine r_icmp_ge 7 dX9_fall_2 (by decide) (fun h2 => ?_) (fun h2 => ?_)
  · exact absurd h2 (fun z => ge_m1.mp z h)
  · refine r_pc 5 rfl ?_
    refine r_iconst (v := (-1)) dX9_fall_5 (by decide) ?_
    exact r_iretP dX9_fall_6 rfl ⟨rfl, _, _, _, _, _, _, _, _, _, _, _, _, _, _, _, _, _, _, _, _, _, _, _, _, _, _, _, rfl, ⟨⟨s1, s2, s3, s4, s5, s6⟩, hB, hrx, hrw, hrz, hrk, hrl, hrd⟩⟩
theorem d_fall_m (hR : RI L b n m cd Q ik kn kc kQ fn fr fz tal R w) : SemP mX9_fall 3 0 0 [.ref 100, .int (-1)] w (Top (fz) (RI L b n m cd Q ik kn kc kQ fn fr fz tal R)) := by
  obtain ⟨rc, rf, ro, rt, ru, rm, rg, rp, rq, ry, rl, wt, rk, rx, rz, rd, rT, rR, rN, rA, rF, rC, rO, rB, rY, rP, rb, rfl, ⟨s1, s2, s3, s4, s5, s6⟩, hB, hrx, hrw, hrz, hrk, hrl, hrd⟩ := hR
  have hm : m ≤ 200 := s4.1
  have hkn : kn ≤ 200 := s5.1
  have hL : L ≤ 120 := s1
  have s3 : n ≤ m := s3
  have hn : n ≤ 200 := Nat.le_trans s3 s4.1
  have s6 : fn ≤ 8 := s6
  have hrx : ∀ j, j < m → rx j = nI (cd j) := hrx
  have hrw : ∀ j, j ≤ m → wt j = bt (Q j) := hrw
  have hrl : ∀ j, j < fn → rl j = fr j := hrl
  have hrd : ∀ j, j < 12 → rd j = tal j := hrd
  have hQn : wt n = bt (Q n) := hrw n s3
  have hVn : Vq (Q n) := s4.2.2.1 n s3
  refine semP_of (by decide) (Nat.le_of_ble_eq_true rfl) rfl ?_
  refine r_iload_n dX9_fall_0 rfl ?_
  refine r_iconst (v := (-1)) dX9_fall_1 (by decide) ?_
  refine r_icmp_ge 7 dX9_fall_2 (by decide) (fun h2 => ?_) (fun h2 => ?_)
  · refine r_pc 7 rfl ?_
    refine r_iload_n dX9_fall_7 rfl ?_
    refine r_iconst (v := (nI 1)) dX9_fall_8 (by decide) ?_
    refine r_icmp_ge 28 dX9_fall_9 (by decide) (fun h9 => ?_) (fun h9 => ?_)
    · exact absurd h9 (by decide)
    · refine r_pc 12 rfl ?_
      refine r_iload_n dX9_fall_12 rfl ?_
      refine r_if_ge 23 dX9_fall_13 (by decide) (fun h13 => ?_) (fun h13 => ?_)
      · exact absurd h13 (by decide)
      · refine r_pc 16 rfl ?_
        refine r_aload_n dX9_fall_16 rfl ?_
        refine r_get dX9_fall_17 fX9_265 rfl rfl ?_
        refine r_goto 27 dX9_fall_20 (by decide) ?_
        exact r_iretP dX9_fall_27 rfl ⟨rfl, _, _, _, _, _, _, _, _, _, _, _, _, _, _, _, _, _, _, _, _, _, _, _, _, _, _, _, rfl, ⟨⟨s1, s2, s3, s4, s5, s6⟩, hB, hrx, hrw, hrz, hrk, hrl, hrd⟩⟩
  · exact absurd (by decide) h2
theorem d_fall_0 (hR : RI L b n m cd Q ik kn kc kQ fn fr fz tal R w) : SemP mX9_fall 3 0 0 [.ref 100, .int (nI 0)] w (Top (nI fn) (RI L b n m cd Q ik kn kc kQ fn fr fz tal R)) := by
  obtain ⟨rc, rf, ro, rt, ru, rm, rg, rp, rq, ry, rl, wt, rk, rx, rz, rd, rT, rR, rN, rA, rF, rC, rO, rB, rY, rP, rb, rfl, ⟨s1, s2, s3, s4, s5, s6⟩, hB, hrx, hrw, hrz, hrk, hrl, hrd⟩ := hR
  have hm : m ≤ 200 := s4.1
  have hkn : kn ≤ 200 := s5.1
  have hL : L ≤ 120 := s1
  have s3 : n ≤ m := s3
  have hn : n ≤ 200 := Nat.le_trans s3 s4.1
  have s6 : fn ≤ 8 := s6
  have hrx : ∀ j, j < m → rx j = nI (cd j) := hrx
  have hrw : ∀ j, j ≤ m → wt j = bt (Q j) := hrw
  have hrl : ∀ j, j < fn → rl j = fr j := hrl
  have hrd : ∀ j, j < 12 → rd j = tal j := hrd
  have hQn : wt n = bt (Q n) := hrw n s3
  have hVn : Vq (Q n) := s4.2.2.1 n s3
  refine semP_of (by decide) (Nat.le_of_ble_eq_true rfl) rfl ?_
  refine r_iload_n dX9_fall_0 rfl ?_
  refine r_iconst (v := (-1)) dX9_fall_1 (by decide) ?_
  refine r_icmp_ge 7 dX9_fall_2 (by decide) (fun h2 => ?_) (fun h2 => ?_)
  · refine r_pc 7 rfl ?_
    refine r_iload_n dX9_fall_7 rfl ?_
    refine r_iconst (v := (nI 1)) dX9_fall_8 (by decide) ?_
    refine r_icmp_ge 28 dX9_fall_9 (by decide) (fun h9 => ?_) (fun h9 => ?_)
    · exact absurd h9 (by decide)
    · refine r_pc 12 rfl ?_
      refine r_iload_n dX9_fall_12 rfl ?_
      refine r_if_ge 23 dX9_fall_13 (by decide) (fun h13 => ?_) (fun h13 => ?_)
      · refine r_pc 23 rfl ?_
        refine r_aload_n dX9_fall_23 rfl ?_
        refine r_get dX9_fall_24 fX9_262 rfl rfl ?_
        exact r_iretP dX9_fall_27 rfl ⟨rfl, _, _, _, _, _, _, _, _, _, _, _, _, _, _, _, _, _, _, _, _, _, _, _, _, _, _, _, rfl, ⟨⟨s1, s2, s3, s4, s5, s6⟩, hB, hrx, hrw, hrz, hrk, hrl, hrd⟩⟩
      · exact absurd (by decide) h13
  · exact absurd (by decide) h2
theorem d_fall_1 {i : Nat} (hR : RI L b n m cd Q ik kn kc kQ fn fr fz tal R w) (h : i < fn) : SemP mX9_fall 3 0 0 [.ref 100, .int (nI (i + 1))] w (Top (fr i) (RI L b n m cd Q ik kn kc kQ fn fr fz tal R)) := by
  obtain ⟨rc, rf, ro, rt, ru, rm, rg, rp, rq, ry, rl, wt, rk, rx, rz, rd, rT, rR, rN, rA, rF, rC, rO, rB, rY, rP, rb, rfl, ⟨s1, s2, s3, s4, s5, s6⟩, hB, hrx, hrw, hrz, hrk, hrl, hrd⟩ := hR
  have hm : m ≤ 200 := s4.1
  have hkn : kn ≤ 200 := s5.1
  have hL : L ≤ 120 := s1
  have s3 : n ≤ m := s3
  have hn : n ≤ 200 := Nat.le_trans s3 s4.1
  have s6 : fn ≤ 8 := s6
  have hrx : ∀ j, j < m → rx j = nI (cd j) := hrx
  have hrw : ∀ j, j ≤ m → wt j = bt (Q j) := hrw
  have hrl : ∀ j, j < fn → rl j = fr j := hrl
  have hrd : ∀ j, j < 12 → rd j = tal j := hrd
  have hQn : wt n = bt (Q n) := hrw n s3
  have hVn : Vq (Q n) := s4.2.2.1 n s3
  refine semP_of (by decide) (Nat.le_of_ble_eq_true rfl) rfl ?_
  refine r_iload_n dX9_fall_0 rfl ?_
  refine r_iconst (v := (-1)) dX9_fall_1 (by decide) ?_
  refine r_icmp_ge 7 dX9_fall_2 (by decide) (fun h2 => ?_) (fun h2 => ?_)
  · refine r_pc 7 rfl ?_
    refine r_iload_n dX9_fall_7 rfl ?_
    refine r_iconst (v := (nI 1)) dX9_fall_8 (by decide) ?_
    refine r_icmp_geN 28 dX9_fall_9 (by decide) (by omega) (by omega) (fun h9 => ?_) (fun h9 => ?_)
    · refine r_pc 28 rfl ?_
      refine r_iload_n dX9_fall_28 rfl ?_
      refine r_aload_n dX9_fall_29 rfl ?_
      refine r_get dX9_fall_30 fX9_262 rfl rfl ?_
      refine r_icmp_gtN 47 dX9_fall_33 (by decide) (by omega) (by omega) (fun h33 => ?_) (fun h33 => ?_)
      · exact absurd h33 (by omega)
      · refine r_pc 36 rfl ?_
        refine r_aload_n dX9_fall_36 rfl ?_
        refine r_get dX9_fall_37 fX9_86 rfl rfl ?_
        refine r_iload_n dX9_fall_40 rfl ?_
        refine r_iconst (v := (nI 1)) dX9_fall_41 (by decide) ?_
        refine r_isubN dX9_fall_42 (by omega) ?_
        refine r_pc 43 rfl ?_
        rw [Nat.add_sub_cancel]
        refine r_iald dX9_fall_43 rfl rfl (by omega) (by decide) ?_
        refine r_topi _ (hrl i h) ?_
        refine r_goto 49 dX9_fall_44 (by decide) ?_
        exact r_iretP dX9_fall_49 rfl ⟨rfl, _, _, _, _, _, _, _, _, _, _, _, _, _, _, _, _, _, _, _, _, _, _, _, _, _, _, _, rfl, ⟨⟨s1, s2, s3, s4, s5, s6⟩, hB, hrx, hrw, hrz, hrk, hrl, hrd⟩⟩
    · exact absurd h9 (by omega)
  · exact absurd (ge_m1.mpr (nI_ge_m1 _ (by omega))) h2
theorem d_fall_2 {i : Nat} (hR : RI L b n m cd Q ik kn kc kQ fn fr fz tal R w) (h : fn ≤ i) (hi : i + 1 < 2 ^ 31) : SemP mX9_fall 3 0 0 [.ref 100, .int (nI (i + 1))] w (Top (-2) (RI L b n m cd Q ik kn kc kQ fn fr fz tal R)) := by
  obtain ⟨rc, rf, ro, rt, ru, rm, rg, rp, rq, ry, rl, wt, rk, rx, rz, rd, rT, rR, rN, rA, rF, rC, rO, rB, rY, rP, rb, rfl, ⟨s1, s2, s3, s4, s5, s6⟩, hB, hrx, hrw, hrz, hrk, hrl, hrd⟩ := hR
  have hm : m ≤ 200 := s4.1
  have hkn : kn ≤ 200 := s5.1
  have hL : L ≤ 120 := s1
  have s3 : n ≤ m := s3
  have hn : n ≤ 200 := Nat.le_trans s3 s4.1
  have s6 : fn ≤ 8 := s6
  have hrx : ∀ j, j < m → rx j = nI (cd j) := hrx
  have hrw : ∀ j, j ≤ m → wt j = bt (Q j) := hrw
  have hrl : ∀ j, j < fn → rl j = fr j := hrl
  have hrd : ∀ j, j < 12 → rd j = tal j := hrd
  have hQn : wt n = bt (Q n) := hrw n s3
  have hVn : Vq (Q n) := s4.2.2.1 n s3
  refine semP_of (by decide) (Nat.le_of_ble_eq_true rfl) rfl ?_
  refine r_iload_n dX9_fall_0 rfl ?_
  refine r_iconst (v := (-1)) dX9_fall_1 (by decide) ?_
  refine r_icmp_ge 7 dX9_fall_2 (by decide) (fun h2 => ?_) (fun h2 => ?_)
  · refine r_pc 7 rfl ?_
    refine r_iload_n dX9_fall_7 rfl ?_
    refine r_iconst (v := (nI 1)) dX9_fall_8 (by decide) ?_
    refine r_icmp_geN 28 dX9_fall_9 (by decide) (by omega) (by omega) (fun h9 => ?_) (fun h9 => ?_)
    · refine r_pc 28 rfl ?_
      refine r_iload_n dX9_fall_28 rfl ?_
      refine r_aload_n dX9_fall_29 rfl ?_
      refine r_get dX9_fall_30 fX9_262 rfl rfl ?_
      refine r_icmp_gtN 47 dX9_fall_33 (by decide) (by omega) (by omega) (fun h33 => ?_) (fun h33 => ?_)
      · refine r_pc 47 rfl ?_
        refine r_bipush (v := (-2)) dX9_fall_47 (by decide) ?_
        exact r_iretP dX9_fall_49 rfl ⟨rfl, _, _, _, _, _, _, _, _, _, _, _, _, _, _, _, _, _, _, _, _, _, _, _, _, _, _, _, rfl, ⟨⟨s1, s2, s3, s4, s5, s6⟩, hB, hrx, hrw, hrz, hrk, hrl, hrd⟩⟩
      · exact absurd h33 (by omega)
    · exact absurd h9 (by omega)
  · exact absurd (ge_m1.mpr (nI_ge_m1 _ (by omega))) h2
theorem d_call_b {x : Int32} (hR : RI L b n m cd Q ik kn kc kQ fn fr fz tal R w) (h : x < -1) : SemP mX9_call 3 0 0 [.ref 100, .int x] w (Top (-1) (RI L b n m cd Q ik kn kc kQ fn fr fz tal R)) := by
  obtain ⟨rc, rf, ro, rt, ru, rm, rg, rp, rq, ry, rl, wt, rk, rx, rz, rd, rT, rR, rN, rA, rF, rC, rO, rB, rY, rP, rb, rfl, ⟨s1, s2, s3, s4, s5, s6⟩, hB, hrx, hrw, hrz, hrk, hrl, hrd⟩ := hR
  have hm : m ≤ 200 := s4.1
  have hkn : kn ≤ 200 := s5.1
  have hL : L ≤ 120 := s1
  have s3 : n ≤ m := s3
  have hn : n ≤ 200 := Nat.le_trans s3 s4.1
  have s6 : fn ≤ 8 := s6
  have hrx : ∀ j, j < m → rx j = nI (cd j) := hrx
  have hrw : ∀ j, j ≤ m → wt j = bt (Q j) := hrw
  have hrl : ∀ j, j < fn → rl j = fr j := hrl
  have hrd : ∀ j, j < 12 → rd j = tal j := hrd
  have hQn : wt n = bt (Q n) := hrw n s3
  have hVn : Vq (Q n) := s4.2.2.1 n s3
  refine semP_of (by decide) (Nat.le_of_ble_eq_true rfl) rfl ?_
  refine r_iload_n dX9_call_0 rfl ?_
  refine r_iconst (v := (-1)) dX9_call_1 (by decide) ?_
  refine r_icmp_ge 9 dX9_call_2 (by decide) (fun h2 => ?_) (fun h2 => ?_)
  · exact absurd h2 (fun z => ge_m1.mp z h)
  · refine r_pc 5 rfl ?_
    refine r_iconst (v := (-1)) dX9_call_5 (by decide) ?_
    refine r_goto 39 dX9_call_6 (by decide) ?_
    exact r_iretP dX9_call_39 rfl ⟨rfl, _, _, _, _, _, _, _, _, _, _, _, _, _, _, _, _, _, _, _, _, _, _, _, _, _, _, _, rfl, ⟨⟨s1, s2, s3, s4, s5, s6⟩, hB, hrx, hrw, hrz, hrk, hrl, hrd⟩⟩
theorem d_call_m (hR : RI L b n m cd Q ik kn kc kQ fn fr fz tal R w) : SemP mX9_call 3 0 0 [.ref 100, .int (-1)] w (Top (nI n) (RI L b n m cd Q ik kn kc kQ fn fr fz tal R)) := by
  obtain ⟨rc, rf, ro, rt, ru, rm, rg, rp, rq, ry, rl, wt, rk, rx, rz, rd, rT, rR, rN, rA, rF, rC, rO, rB, rY, rP, rb, rfl, ⟨s1, s2, s3, s4, s5, s6⟩, hB, hrx, hrw, hrz, hrk, hrl, hrd⟩ := hR
  have hm : m ≤ 200 := s4.1
  have hkn : kn ≤ 200 := s5.1
  have hL : L ≤ 120 := s1
  have s3 : n ≤ m := s3
  have hn : n ≤ 200 := Nat.le_trans s3 s4.1
  have s6 : fn ≤ 8 := s6
  have hrx : ∀ j, j < m → rx j = nI (cd j) := hrx
  have hrw : ∀ j, j ≤ m → wt j = bt (Q j) := hrw
  have hrl : ∀ j, j < fn → rl j = fr j := hrl
  have hrd : ∀ j, j < 12 → rd j = tal j := hrd
  have hQn : wt n = bt (Q n) := hrw n s3
  have hVn : Vq (Q n) := s4.2.2.1 n s3
  refine semP_of (by decide) (Nat.le_of_ble_eq_true rfl) rfl ?_
  refine r_iload_n dX9_call_0 rfl ?_
  refine r_iconst (v := (-1)) dX9_call_1 (by decide) ?_
  refine r_icmp_ge 9 dX9_call_2 (by decide) (fun h2 => ?_) (fun h2 => ?_)
  · refine r_pc 9 rfl ?_
    refine r_iload_n dX9_call_9 rfl ?_
    refine r_if_ge 20 dX9_call_10 (by decide) (fun h10 => ?_) (fun h10 => ?_)
    · exact absurd h10 (by decide)
    · refine r_pc 13 rfl ?_
      refine r_aload_n dX9_call_13 rfl ?_
      refine r_get dX9_call_14 fX9_144 rfl rfl ?_
      refine r_goto 39 dX9_call_17 (by decide) ?_
      exact r_iretP dX9_call_39 rfl ⟨rfl, _, _, _, _, _, _, _, _, _, _, _, _, _, _, _, _, _, _, _, _, _, _, _, _, _, _, _, rfl, ⟨⟨s1, s2, s3, s4, s5, s6⟩, hB, hrx, hrw, hrz, hrk, hrl, hrd⟩⟩
  · exact absurd (by decide) h2
theorem d_call_1 {i : Nat} (hR : RI L b n m cd Q ik kn kc kQ fn fr fz tal R w) (h : i < n) : SemP mX9_call 3 0 0 [.ref 100, .int (nI i)] w (Top (nI (cd i)) (RI L b n m cd Q ik kn kc kQ fn fr fz tal R)) := by
  obtain ⟨rc, rf, ro, rt, ru, rm, rg, rp, rq, ry, rl, wt, rk, rx, rz, rd, rT, rR, rN, rA, rF, rC, rO, rB, rY, rP, rb, rfl, ⟨s1, s2, s3, s4, s5, s6⟩, hB, hrx, hrw, hrz, hrk, hrl, hrd⟩ := hR
  have hm : m ≤ 200 := s4.1
  have hkn : kn ≤ 200 := s5.1
  have hL : L ≤ 120 := s1
  have s3 : n ≤ m := s3
  have hn : n ≤ 200 := Nat.le_trans s3 s4.1
  have s6 : fn ≤ 8 := s6
  have hrx : ∀ j, j < m → rx j = nI (cd j) := hrx
  have hrw : ∀ j, j ≤ m → wt j = bt (Q j) := hrw
  have hrl : ∀ j, j < fn → rl j = fr j := hrl
  have hrd : ∀ j, j < 12 → rd j = tal j := hrd
  have hQn : wt n = bt (Q n) := hrw n s3
  have hVn : Vq (Q n) := s4.2.2.1 n s3
  refine semP_of (by decide) (Nat.le_of_ble_eq_true rfl) rfl ?_
  refine r_iload_n dX9_call_0 rfl ?_
  refine r_iconst (v := (-1)) dX9_call_1 (by decide) ?_
  refine r_icmp_ge 9 dX9_call_2 (by decide) (fun h2 => ?_) (fun h2 => ?_)
  · refine r_pc 9 rfl ?_
    refine r_iload_n dX9_call_9 rfl ?_
    refine r_if_ge 20 dX9_call_10 (by decide) (fun h10 => ?_) (fun h10 => ?_)
    · refine r_pc 20 rfl ?_
      refine r_iload_n dX9_call_20 rfl ?_
      refine r_aload_n dX9_call_21 rfl ?_
      refine r_get dX9_call_22 fX9_144 rfl rfl ?_
      refine r_icmp_geN 37 dX9_call_25 (by decide) (by omega) (by omega) (fun h25 => ?_) (fun h25 => ?_)
      · exact absurd h25 (by omega)
      · refine r_pc 28 rfl ?_
        refine r_aload_n dX9_call_28 rfl ?_
        refine r_get dX9_call_29 fX9_96 rfl rfl ?_
        refine r_iload_n dX9_call_32 rfl ?_
        refine r_iald dX9_call_33 rfl rfl (by omega) (by decide) ?_
        refine r_topi _ (hrx i (by omega)) ?_
        refine r_goto 39 dX9_call_34 (by decide) ?_
        exact r_iretP dX9_call_39 rfl ⟨rfl, _, _, _, _, _, _, _, _, _, _, _, _, _, _, _, _, _, _, _, _, _, _, _, _, _, _, _, rfl, ⟨⟨s1, s2, s3, s4, s5, s6⟩, hB, hrx, hrw, hrz, hrk, hrl, hrd⟩⟩
    · exact absurd (nI_pos' (by omega)) h10
  · exact absurd (ge_m1.mpr (nI_ge_m1 _ (by omega))) h2
theorem d_call_2 {i : Nat} (hR : RI L b n m cd Q ik kn kc kQ fn fr fz tal R w) (h : n ≤ i) (hi : i < 2 ^ 31) : SemP mX9_call 3 0 0 [.ref 100, .int (nI i)] w (Top (-2) (RI L b n m cd Q ik kn kc kQ fn fr fz tal R)) := by
  obtain ⟨rc, rf, ro, rt, ru, rm, rg, rp, rq, ry, rl, wt, rk, rx, rz, rd, rT, rR, rN, rA, rF, rC, rO, rB, rY, rP, rb, rfl, ⟨s1, s2, s3, s4, s5, s6⟩, hB, hrx, hrw, hrz, hrk, hrl, hrd⟩ := hR
  have hm : m ≤ 200 := s4.1
  have hkn : kn ≤ 200 := s5.1
  have hL : L ≤ 120 := s1
  have s3 : n ≤ m := s3
  have hn : n ≤ 200 := Nat.le_trans s3 s4.1
  have s6 : fn ≤ 8 := s6
  have hrx : ∀ j, j < m → rx j = nI (cd j) := hrx
  have hrw : ∀ j, j ≤ m → wt j = bt (Q j) := hrw
  have hrl : ∀ j, j < fn → rl j = fr j := hrl
  have hrd : ∀ j, j < 12 → rd j = tal j := hrd
  have hQn : wt n = bt (Q n) := hrw n s3
  have hVn : Vq (Q n) := s4.2.2.1 n s3
  refine semP_of (by decide) (Nat.le_of_ble_eq_true rfl) rfl ?_
  refine r_iload_n dX9_call_0 rfl ?_
  refine r_iconst (v := (-1)) dX9_call_1 (by decide) ?_
  refine r_icmp_ge 9 dX9_call_2 (by decide) (fun h2 => ?_) (fun h2 => ?_)
  · refine r_pc 9 rfl ?_
    refine r_iload_n dX9_call_9 rfl ?_
    refine r_if_ge 20 dX9_call_10 (by decide) (fun h10 => ?_) (fun h10 => ?_)
    · refine r_pc 20 rfl ?_
      refine r_iload_n dX9_call_20 rfl ?_
      refine r_aload_n dX9_call_21 rfl ?_
      refine r_get dX9_call_22 fX9_144 rfl rfl ?_
      refine r_icmp_geN 37 dX9_call_25 (by decide) (by omega) (by omega) (fun h25 => ?_) (fun h25 => ?_)
      · refine r_pc 37 rfl ?_
        refine r_bipush (v := (-2)) dX9_call_37 (by decide) ?_
        exact r_iretP dX9_call_39 rfl ⟨rfl, _, _, _, _, _, _, _, _, _, _, _, _, _, _, _, _, _, _, _, _, _, _, _, _, _, _, _, rfl, ⟨⟨s1, s2, s3, s4, s5, s6⟩, hB, hrx, hrw, hrz, hrk, hrl, hrd⟩⟩
      · exact absurd h25 (by omega)
    · exact absurd (nI_pos' (by omega)) h10
  · exact absurd (ge_m1.mpr (nI_ge_m1 _ (by omega))) h2
theorem d_danced0 {x : Int32} (hR : RI L b n m cd Q ik kn kc kQ fn fr fz tal R w) (h : x < 0 ∨ nI 12 ≤ x) : SemP mX9_danced 3 0 0 [.ref 100, .int x] w (Top (-1) (RI L b n m cd Q ik kn kc kQ fn fr fz tal R)) := by
  obtain ⟨rc, rf, ro, rt, ru, rm, rg, rp, rq, ry, rl, wt, rk, rx, rz, rd, rT, rR, rN, rA, rF, rC, rO, rB, rY, rP, rb, rfl, ⟨s1, s2, s3, s4, s5, s6⟩, hB, hrx, hrw, hrz, hrk, hrl, hrd⟩ := hR
  have hm : m ≤ 200 := s4.1
  have hkn : kn ≤ 200 := s5.1
  have hL : L ≤ 120 := s1
  have s3 : n ≤ m := s3
  have hn : n ≤ 200 := Nat.le_trans s3 s4.1
  have s6 : fn ≤ 8 := s6
  have hrx : ∀ j, j < m → rx j = nI (cd j) := hrx
  have hrw : ∀ j, j ≤ m → wt j = bt (Q j) := hrw
  have hrl : ∀ j, j < fn → rl j = fr j := hrl
  have hrd : ∀ j, j < 12 → rd j = tal j := hrd
  have hQn : wt n = bt (Q n) := hrw n s3
  have hVn : Vq (Q n) := s4.2.2.1 n s3
  refine semP_of (by decide) (Nat.le_of_ble_eq_true rfl) rfl ?_
  refine r_iload_n dX9_danced_0 rfl ?_
  refine r_iconst (v := (nI 0)) dX9_danced_1 (by decide) ?_
  refine r_bipush (v := (nI 11)) dX9_danced_2 (by decide) ?_
  refine r_cS dX9_danced_4 (m_isIn _ _ _ _) lX9_147 rfl rfl (by decide) ⟨Nat.le_refl _, Nat.le_refl _⟩ (Nat.le_of_ble_eq_true rfl) ?_
  rw [out_dec (a := nI 0) (h.imp id (le_lt1 (by decide)))]
  refine r_if_eq 19 dX9_danced_7 (by decide) (fun h7 => ?_) (fun h7 => ?_)
  · refine r_pc 19 rfl ?_
    refine r_iconst (v := (-1)) dX9_danced_19 (by decide) ?_
    exact r_iretP dX9_danced_20 rfl ⟨rfl, _, _, _, _, _, _, _, _, _, _, _, _, _, _, _, _, _, _, _, _, _, _, _, _, _, _, _, rfl, ⟨⟨s1, s2, s3, s4, s5, s6⟩, hB, hrx, hrw, hrz, hrk, hrl, hrd⟩⟩
  · exact absurd rfl h7
theorem d_danced1 {i : Nat} (hR : RI L b n m cd Q ik kn kc kQ fn fr fz tal R w) (h : i < 12) : SemP mX9_danced 3 0 0 [.ref 100, .int (nI i)] w (Top (tal i) (RI L b n m cd Q ik kn kc kQ fn fr fz tal R)) := by
  obtain ⟨rc, rf, ro, rt, ru, rm, rg, rp, rq, ry, rl, wt, rk, rx, rz, rd, rT, rR, rN, rA, rF, rC, rO, rB, rY, rP, rb, rfl, ⟨s1, s2, s3, s4, s5, s6⟩, hB, hrx, hrw, hrz, hrk, hrl, hrd⟩ := hR
  have hm : m ≤ 200 := s4.1
  have hkn : kn ≤ 200 := s5.1
  have hL : L ≤ 120 := s1
  have s3 : n ≤ m := s3
  have hn : n ≤ 200 := Nat.le_trans s3 s4.1
  have s6 : fn ≤ 8 := s6
  have hrx : ∀ j, j < m → rx j = nI (cd j) := hrx
  have hrw : ∀ j, j ≤ m → wt j = bt (Q j) := hrw
  have hrl : ∀ j, j < fn → rl j = fr j := hrl
  have hrd : ∀ j, j < 12 → rd j = tal j := hrd
  have hQn : wt n = bt (Q n) := hrw n s3
  have hVn : Vq (Q n) := s4.2.2.1 n s3
  refine semP_of (by decide) (Nat.le_of_ble_eq_true rfl) rfl ?_
  refine r_iload_n dX9_danced_0 rfl ?_
  refine r_iconst (v := (nI 0)) dX9_danced_1 (by decide) ?_
  refine r_bipush (v := (nI 11)) dX9_danced_2 (by decide) ?_
  refine r_cS dX9_danced_4 (m_isIn _ _ _ _) lX9_147 rfl rfl (by decide) ⟨Nat.le_refl _, Nat.le_refl _⟩ (Nat.le_of_ble_eq_true rfl) ?_
  rw [in_dec (by omega) (by decide) (by decide) ⟨Nat.zero_le _, by omega⟩]
  refine r_if_eq 19 dX9_danced_7 (by decide) (fun h7 => ?_) (fun h7 => ?_)
  · exact absurd h7 (by decide)
  · refine r_pc 10 rfl ?_
    refine r_aload_n dX9_danced_10 rfl ?_
    refine r_get dX9_danced_11 fX9_102 rfl rfl ?_
    refine r_iload_n dX9_danced_14 rfl ?_
    refine r_iald dX9_danced_15 rfl rfl h (by decide) ?_
    refine r_topi _ (hrd i h) ?_
    refine r_goto 20 dX9_danced_16 (by decide) ?_
    exact r_iretP dX9_danced_20 rfl ⟨rfl, _, _, _, _, _, _, _, _, _, _, _, _, _, _, _, _, _, _, _, _, _, _, _, _, _, _, _, rfl, ⟨⟨s1, s2, s3, s4, s5, s6⟩, hB, hrx, hrw, hrz, hrk, hrl, hrd⟩⟩
end D1
