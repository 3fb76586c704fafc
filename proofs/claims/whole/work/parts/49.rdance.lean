/-! ===== the reference: dance, round ===== -/
theorem nx_btx {q q' : Int64} {x : Nat} (hx : x / 100 < 9 ∧ x % 100 < 12) (hi : Inj (sqc q)) (h : nxC q (cnr x) = some q') {rt ru : Nat → Int32} (h1 : ∀ j, j < 8 → rt j = stN (PT (sqc q) (sqf q) (x / 100) (x % 100) j)) (h2 : ∀ j, j < 8 → ru j = nI (PU (sqc q) (sqf q) (x / 100) (x % 100) j)) : pkR rt ru 8 = bt q' := by
  have e1 : cnr x / 12 = x / 100 := by unfold cnr; omega
  have e2 : cnr x % 12 = x % 100 := by unfold cnr; omega
  refine nx_bt hi (cnr_lt hx) h ?_ ?_
  · rw [e1, e2]; exact h1
  · rw [e1, e2]; exact h2
theorem cnt_zero {p : Nat → Bool} (h : ∀ j, p j = false) : ∀ n, cnt p n = 0
  | 0 => rfl
  | n + 1 => by
    unfold cnt
    rw [h n]
    exact cnt_zero h n
theorem fN_zero {q : Int64} {x : Nat} (h : ¬ PY (sqc q) (sqf q) (x / 100) (x % 100) = 0) : fN q x = 0 := by
  refine cnt_zero (fun j => ?_) 8
  have : fwv q x j = 0 := by
    unfold fwv PW fx
    rw [decide_eq_false h]
    simp
  simp [wvb, this]
theorem bt_pk (q : Int64) : pkR (fun j => nI (rqc (bt q) j)) (fun j => nI (rqf (bt q) j)) 8 = bt q := pkR_ext 8 (fun j hj => ⟨congrArg nI (bt_c q hj), congrArg nI (bt_f q hj)⟩)
theorem PY_lt (c f : Nat → Nat) (w g : Nat) : PY c f w g < 10 := by
  unfold PY
  repeat' split
  all_goals decide
section R9
variable {rc rf ro rt ru rm rg : Nat → Int32} {rp rq : Int32} {ry rl : Nat → Int32} {rn ra : Int32} {rw rk : Nat → Int64} {rx rz rd : Nat → Int32} {rM rU rK : Int32} {rT rR : Nat → Int32} {rL rN rA rF : Int32} {rC : Nat → Int64} {rO rB rY rP : Nat → Int32} {rb : Int32}
variable {R : List AE} {c f : Nat → Nat}
theorem m_dances {n x : Nat} {q : Int64} (hn : n < 200) (hx : x % 100 < 12) (hx2 : x < 2 ^ 31) (hq : pkR rt ru 8 = bt q) : Sem mX9_dances 3 0 0 [.ref 100, .int (nI x)] (R, mW rc rf ro rt ru rm rg rp rq ry rl rn ra rw rk rx rz rd (nI n) rU rK rT rR rL rN rA rF rC rO rB rY rP rb) none (R, mW (fun j => nI (rqc (bt q) j)) (fun j => nI (rqf (bt q) j)) (fun x => stN (who (rqc (bt q)) 8 x)) rt ru rm rg rp rq ry rl rn ra (vp_updL rw (n + 1) (bt q)) rk (upd rx n (nI x)) rz (upd rd (x % 100) (rd (x % 100) + nI 1)) (nI (n + 1)) (nI 0) rK rT rR rL rN rA rF rC rO rB rY rP rb) := by
  refine sem_of (by decide) (Nat.le_of_ble_eq_true rfl) rfl ?_
  refine r_aload_n dX9_dances_0 rfl ?_
  refine r_get dX9_dances_1 fX9_96 rfl rfl ?_
  refine r_aload_n dX9_dances_4 rfl ?_
  refine r_get dX9_dances_5 fX9_144 rfl rfl ?_
  refine r_iload_n dX9_dances_8 rfl ?_
  refine r_pc 9 rfl ?_
  refine r_iast (w2 := (_, mW _ _ _ _ _ _ _ _ _ _ _ _ _ _ _ _ _ _ _ _ _ _ _ _ _ _ _ _ _ _ _ _ _)) dX9_dances_9 rfl rfl (by omega) (by decide) rfl ?_
  refine r_aload_n dX9_dances_10 rfl ?_
  refine r_get dX9_dances_11 fX9_102 rfl rfl ?_
  refine r_iload_n dX9_dances_14 rfl ?_
  refine r_bipush (v := (nI 100)) dX9_dances_15 (by decide) ?_
  refine r_pc 17 rfl ?_
  refine r_iremN dX9_dances_17 (by omega) (by decide) (by decide) ?_
  refine r_dup2 dX9_dances_18 rfl rfl ?_
  refine r_iald dX9_dances_19 rfl rfl hx (by decide) ?_
  refine r_iconst (v := (nI 1)) dX9_dances_20 (by decide) ?_
  refine r_iadd dX9_dances_21 ?_
  refine r_pc 22 rfl ?_
  refine r_iast (w2 := (_, mW _ _ _ _ _ _ _ _ _ _ _ _ _ _ _ _ _ _ _ _ _ _ _ _ _ _ _ _ _ _ _ _ _)) dX9_dances_22 rfl rfl hx (by decide) rfl ?_
  refine r_aload_n dX9_dances_23 rfl ?_
  refine r_get dX9_dances_24 fX9_89 rfl rfl ?_
  refine r_aload_n dX9_dances_27 rfl ?_
  refine r_get dX9_dances_28 fX9_144 rfl rfl ?_
  refine r_pc 31 rfl ?_
  refine r_iconst (v := (nI 1)) dX9_dances_31 (by decide) ?_
  refine r_iaddN dX9_dances_32 ?_
  refine r_aload_n dX9_dances_33 rfl ?_
  refine r_cV dX9_dances_34 m_made lX9_249 rfl rfl rfl (by decide) ⟨Nat.le_refl _, Nat.le_refl _⟩ (Nat.le_of_ble_eq_true rfl) ?_
  rw [hq]
  refine r_last (w2 := (_, mW _ _ _ _ _ _ _ _ _ _ _ _ _ _ _ _ _ _ _ _ _ _ _ _ _ _ _ _ _ _ _ _ _)) dX9_dances_37 rfl rfl (by omega) (by decide) rfl ?_
  refine r_pc 38 rfl ?_
  refine r_aload_n dX9_dances_38 rfl ?_
  refine r_dup dX9_dances_39 rfl ?_
  refine r_get dX9_dances_40 fX9_144 rfl rfl ?_
  refine r_iconst (v := (nI 1)) dX9_dances_43 (by decide) ?_
  refine r_iaddN dX9_dances_44 ?_
  refine r_pc 45 rfl ?_
  refine r_put (w2 := (_, mW _ _ _ _ _ _ _ _ _ _ _ _ _ _ _ _ _ _ _ _ _ _ _ _ _ _ _ _ _ _ _ _ _)) dX9_dances_45 fX9_144 rfl rfl (Nat.le_of_ble_eq_true rfl) (fun _ => rfl) (fun _ => rfl) rfl ?_
  refine r_aload_n dX9_dances_48 rfl ?_
  refine r_iconst (v := (nI 0)) dX9_dances_49 (by decide) ?_
  refine r_put (w2 := (_, mW _ _ _ _ _ _ _ _ _ _ _ _ _ _ _ _ _ _ _ _ _ _ _ _ _ _ _ _ _ _ _ _ _)) dX9_dances_50 fX9_252 rfl rfl (Nat.le_of_ble_eq_true rfl) (fun _ => rfl) (fun _ => rfl) rfl ?_
  refine r_aload_n dX9_dances_53 rfl ?_
  refine r_pc 54 rfl ?_
  refine r_cVv dX9_dances_54 (m_look (q := q) (by omega) pk_uLs) lX9_255 rfl rfl rfl (by decide) ⟨Nat.le_refl _, Nat.le_refl _⟩ (Nat.le_of_ble_eq_true rfl) ?_
  exact r_vret dX9_dances_57 rfl rfl rfl
end R9
section D3
variable {R : List AE} {w : WD} {L : Nat} {b : Nat → Nat} {n m : Nat} {cd : Nat → Nat} {Q : Nat → Int64} {ik : Bool} {kn : Nat} {kc : Nat → Nat} {kQ : Nat → Int64} {fn : Nat} {fr : Nat → Int32} {fz : Int32} {tal : Nat → Int32}
theorem d_dance_f {x : Nat} (hR : RI L b n m cd Q ik kn kc kQ fn fr fz tal R w) (h : (tx b L).1 = some x) (hx : x < 2 ^ 31) : SemP mX9_dance 10 0 0 [.ref 100] w (Top (-100 - nI x) (RI (0) b n m cd Q ik kn kc kQ fn fr fz tal R)) := by
  obtain ⟨rc, rf, ro, rt, ru, rm, rg, rp, rq, ry, rl, wt, rk, rx, rz, rd, rT, rR, rN, rA, rF, rC, rO, rB, rY, rP, rb, rfl, ⟨s1, s2, s3, s4, s5, s6⟩, hB, hrx, hrw, hrz, hrk, hrl, hrd⟩ := hR
  have hm : m ≤ 200 := s4.1
  have hkn : kn ≤ 200 := s5.1
  have hL : L ≤ 120 := s1
  have s3 : n ≤ m := s3
  have hn : n ≤ 200 := Nat.le_trans s3 s4.1
  have s6 : fn ≤ 8 := s6
  have hrx : ∀ j, j < m → rx j = nI (cd j) := hrx
  have hrw : ∀ j, j ≤ m → wt j = bt (Q j) := hrw
  have hrl : ∀ j, j < fn → rl j = fr j := hrl
  have hrd : ∀ j, j < 12 → rd j = tal j := hrd
  have hQn : wt n = bt (Q n) := hrw n s3
  have hVn : Vq (Q n) := s4.2.2.1 n s3
  refine semP_of (by decide) (Nat.le_of_ble_eq_true rfl) rfl ?_
  have hBy : By rT L b := ⟨s1, fun j hj => ⟨hB j hj, s2 j hj⟩⟩
  refine r_aload_n dX9_dance_0 rfl ?_
  refine r_cV dX9_dance_1 (m_isText hBy) lX9_258 rfl rfl rfl (by decide) ⟨Nat.le_refl _, Nat.le_refl _⟩ (Nat.le_of_ble_eq_true rfl) ?_
  rw [show (rtx b L 121 0 []).1 = some x from h]
  refine r_if_ne 15 dX9_dance_4 (by decide) (fun h4 => ?_) (fun h4 => ?_)
  · exact absurd rfl h4
  · refine r_pc 7 rfl ?_
    refine r_bipush (v := (-100)) dX9_dance_7 (by decide) ?_
    refine r_aload_n dX9_dance_9 rfl ?_
    refine r_get dX9_dance_10 fX9_222 rfl rfl ?_
    refine r_isub dX9_dance_13 ?_
    exact r_iretP dX9_dance_14 rfl ⟨rfl, _, _, _, _, _, _, _, _, _, _, _, _, _, _, _, _, _, _, _, _, _, _, _, _, _, _, _, rfl, ⟨⟨Nat.zero_le _, (fun j h => absurd h (Nat.not_lt_zero _)), s3, s4, s5, s6⟩, (fun j h => absurd h (Nat.not_lt_zero _)), hrx, hrw, hrz, hrk, hrl, hrd⟩⟩
theorem d_round_f {x : Nat} (hR : RI L b n m cd Q ik kn kc kQ fn fr fz tal R w) (h : (tx b L).1 = some x) (hx : x < 2 ^ 31) : SemP mX9_round 10 0 0 [.ref 100] w (Top (-100 - nI x) (RI (0) b n m cd Q ik kn kc kQ fn fr fz tal R)) := by
  obtain ⟨rc, rf, ro, rt, ru, rm, rg, rp, rq, ry, rl, wt, rk, rx, rz, rd, rT, rR, rN, rA, rF, rC, rO, rB, rY, rP, rb, rfl, ⟨s1, s2, s3, s4, s5, s6⟩, hB, hrx, hrw, hrz, hrk, hrl, hrd⟩ := hR
  have hm : m ≤ 200 := s4.1
  have hkn : kn ≤ 200 := s5.1
  have hL : L ≤ 120 := s1
  have s3 : n ≤ m := s3
  have hn : n ≤ 200 := Nat.le_trans s3 s4.1
  have s6 : fn ≤ 8 := s6
  have hrx : ∀ j, j < m → rx j = nI (cd j) := hrx
  have hrw : ∀ j, j ≤ m → wt j = bt (Q j) := hrw
  have hrl : ∀ j, j < fn → rl j = fr j := hrl
  have hrd : ∀ j, j < 12 → rd j = tal j := hrd
  have hQn : wt n = bt (Q n) := hrw n s3
  have hVn : Vq (Q n) := s4.2.2.1 n s3
  refine semP_of (by decide) (Nat.le_of_ble_eq_true rfl) rfl ?_
  have hBy : By rT L b := ⟨s1, fun j hj => ⟨hB j hj, s2 j hj⟩⟩
  refine r_aload_n dX9_round_0 rfl ?_
  refine r_cV dX9_round_1 (m_isText hBy) lX9_258 rfl rfl rfl (by decide) ⟨Nat.le_refl _, Nat.le_refl _⟩ (Nat.le_of_ble_eq_true rfl) ?_
  rw [show (rtx b L 121 0 []).1 = some x from h]
  refine r_if_ne 15 dX9_round_4 (by decide) (fun h4 => ?_) (fun h4 => ?_)
  · exact absurd rfl h4
  · refine r_pc 7 rfl ?_
    refine r_bipush (v := (-100)) dX9_round_7 (by decide) ?_
    refine r_aload_n dX9_round_9 rfl ?_
    refine r_get dX9_round_10 fX9_222 rfl rfl ?_
    refine r_isub dX9_round_13 ?_
    exact r_iretP dX9_round_14 rfl ⟨rfl, _, _, _, _, _, _, _, _, _, _, _, _, _, _, _, _, _, _, _, _, _, _, _, _, _, _, _, rfl, ⟨⟨Nat.zero_le _, (fun j h => absurd h (Nat.not_lt_zero _)), s3, s4, s5, s6⟩, (fun j h => absurd h (Nat.not_lt_zero _)), hrx, hrw, hrz, hrk, hrl, hrd⟩⟩
theorem d_dance_l (hR : RI L b n m cd Q ik kn kc kQ fn fr fz tal R w) (h : (tx b L).1 = none) (hl : 200 < n + (tx b L).2.length) : SemP mX9_dance 10 0 0 [.ref 100] w (Top (-3) (RI (0) b n m cd Q ik kn kc kQ fn fr fz tal R)) := by
  obtain ⟨rc, rf, ro, rt, ru, rm, rg, rp, rq, ry, rl, wt, rk, rx, rz, rd, rT, rR, rN, rA, rF, rC, rO, rB, rY, rP, rb, rfl, ⟨s1, s2, s3, s4, s5, s6⟩, hB, hrx, hrw, hrz, hrk, hrl, hrd⟩ := hR
  have hm : m ≤ 200 := s4.1
  have hkn : kn ≤ 200 := s5.1
  have hL : L ≤ 120 := s1
  have s3 : n ≤ m := s3
  have hn : n ≤ 200 := Nat.le_trans s3 s4.1
  have s6 : fn ≤ 8 := s6
  have hrx : ∀ j, j < m → rx j = nI (cd j) := hrx
  have hrw : ∀ j, j ≤ m → wt j = bt (Q j) := hrw
  have hrl : ∀ j, j < fn → rl j = fr j := hrl
  have hrd : ∀ j, j < 12 → rd j = tal j := hrd
  have hQn : wt n = bt (Q n) := hrw n s3
  have hVn : Vq (Q n) := s4.2.2.1 n s3
  refine semP_of (by decide) (Nat.le_of_ble_eq_true rfl) rfl ?_
  have hBy : By rT L b := ⟨s1, fun j hj => ⟨hB j hj, s2 j hj⟩⟩
  obtain ⟨t1, t2, t3⟩ := tx_ok s1 h
  have hr : (rtx b L 121 0 []).1 = none := h
  have t1 : (rtx b L 121 0 []).2.length ≤ 120 := t1
  have hl : 200 < n + (rtx b L 121 0 []).2.length := hl
  refine r_aload_n dX9_dance_0 rfl ?_
  refine r_cV dX9_dance_1 (m_isText hBy) lX9_258 rfl rfl rfl (by decide) ⟨Nat.le_refl _, Nat.le_refl _⟩ (Nat.le_of_ble_eq_true rfl) ?_
  rw [hr]
  refine r_if_ne 15 dX9_dance_4 (by decide) (fun h4 => ?_) (fun h4 => ?_)
  · refine r_pc 15 rfl ?_
    refine r_aload_n dX9_dance_15 rfl ?_
    refine r_get dX9_dance_16 fX9_144 rfl rfl ?_
    refine r_aload_n dX9_dance_19 rfl ?_
    refine r_get dX9_dance_20 fX9_239 rfl rfl ?_
    refine r_iaddN dX9_dance_23 ?_
    refine r_pc 24 rfl ?_
    refine r_sipush (v := (nI 200)) dX9_dance_24 (by decide) ?_
    refine r_icmp_leN 33 dX9_dance_27 (by decide) (by omega) (by omega) (fun h27 => ?_) (fun h27 => ?_)
    · exact absurd h27 (by omega)
    · refine r_pc 30 rfl ?_
      refine r_bipush (v := (-3)) dX9_dance_30 (by decide) ?_
      exact r_iretP dX9_dance_32 rfl ⟨rfl, _, _, _, _, _, _, _, _, _, _, _, _, _, _, _, _, _, _, _, _, _, _, _, _, _, _, _, rfl, ⟨⟨Nat.zero_le _, (fun j h => absurd h (Nat.not_lt_zero _)), s3, s4, s5, s6⟩, (fun j h => absurd h (Nat.not_lt_zero _)), hrx, hrw, hrz, hrk, hrl, hrd⟩⟩
  · exact absurd h4 (by decide)
/-- what dance leaves when k of the calls l were danced: all, or the next one falls -/
def DPr (l : List Nat) (r : Nat × DS) (kn : Nat) (kc : Nat → Nat) (kQ : Nat → Int64) (b : Nat → Nat) (ik : Bool) (fr : Nat → Int32) (R : List AE) : WD → Prop :=
  if r.1 < l.length then RI 0 b r.2.1 r.2.2.1 r.2.2.2.1 r.2.2.2.2.1 ik kn kc kQ (fN (r.2.2.2.2.1 r.2.1) (l.getD r.1 0)) (fR (r.2.2.2.2.1 r.2.1) (l.getD r.1 0)) (fY (r.2.2.2.2.1 r.2.1) (l.getD r.1 0)) r.2.2.2.2.2 R
  else RI 0 b r.2.1 r.2.2.1 r.2.2.2.1 r.2.2.2.2.1 ik kn kc kQ 0 fr (nI 0) r.2.2.2.2.2 R
theorem d_dance_1 (hR : RI L b n m cd Q ik kn kc kQ fn fr fz tal R w) (h : (tx b L).1 = none) (hl : n + (tx b L).2.length ≤ 200) : SemP mX9_dance 10 0 0 [.ref 100] w (Top (nI (dgo (tx b L).2 0 (n, m, cd, Q, tal)).1) (DPr (tx b L).2 (dgo (tx b L).2 0 (n, m, cd, Q, tal)) kn kc kQ b ik fr R)) := by
  obtain ⟨rc, rf, ro, rt, ru, rm, rg, rp, rq, ry, rl, wt, rk, rx, rz, rd, rT, rR, rN, rA, rF, rC, rO, rB, rY, rP, rb, rfl, ⟨s1, s2, s3, s4, s5, s6⟩, hB, hrx, hrw, hrz, hrk, hrl, hrd⟩ := hR
  have hm : m ≤ 200 := s4.1
  have hkn : kn ≤ 200 := s5.1
  have hL : L ≤ 120 := s1
  have s3 : n ≤ m := s3
  have hn : n ≤ 200 := Nat.le_trans s3 s4.1
  have s6 : fn ≤ 8 := s6
  have hrx : ∀ j, j < m → rx j = nI (cd j) := hrx
  have hrw : ∀ j, j ≤ m → wt j = bt (Q j) := hrw
  have hrl : ∀ j, j < fn → rl j = fr j := hrl
  have hrd : ∀ j, j < 12 → rd j = tal j := hrd
  have hQn : wt n = bt (Q n) := hrw n s3
  have hVn : Vq (Q n) := s4.2.2.1 n s3
  refine semP_of (by decide) (Nat.le_of_ble_eq_true rfl) rfl ?_
  have hBy : By rT L b := ⟨s1, fun j hj => ⟨hB j hj, s2 j hj⟩⟩
  obtain ⟨t1, t2, t3⟩ := tx_ok s1 h
  have hr : (rtx b L 121 0 []).1 = none := h
  generalize hlt : (tx b L).2 = l at t1 t2 t3 hl
  have hl2 : (rtx b L 121 0 []).2 = l := hlt
  generalize hw0 : (R, mW rc rf ro rt ru rm rg rp rq ry rl (nI fn) (fz) (wt) rk rx rz rd (nI n) (nI (m - n)) (rkI ik kn) rT rR (nI L) rN rA rF rC rO rB rY rP rb) = w0
  have Lp : ∀ (t : List Nat) (i n m : Nat) (cd : Nat → Nat) (Q : Nat → Int64) (tal : Nat → Int32) (q : Int64) (rt ru rm rg : Nat → Int32) (rp rq rA rF U : Int32) (ry rl : Nat → Int32) (wt : Nat → Int64) (rx rd : Nat → Int32) (y2 : Option Value), i + t.length = l.length → t = l.drop i → n + t.length ≤ 200 → n ≤ m → Dn m cd Q → q = Q n → U = nI (m - n) → (∀ j, j < m → rx j = nI (cd j)) → (∀ j, j ≤ m → wt j = bt (Q j)) → (∀ j, j < 12 → rd j = tal j) → Rp mX9_dance 10 0 0 w0 (Top (nI (dgo t i (n, m, cd, Q, tal)).1) (DPr l (dgo t i (n, m, cd, Q, tal)) kn kc kQ b ik fr R)) 0 0 49 [some (.ref 100), some (.int (nI i)), y2] [] (R, mW (fun j => nI (rqc (bt (q)) j)) (fun j => nI (rqf (bt (q)) j)) (fun x => stN (who (rqc (bt (q))) 8 x)) rt ru rm rg rp rq ry rl (nI 0) (nI 0) (wt) rk rx rz rd (nI n) (U) (rkI ik kn) rT (putL rR l) (nI 0) (nI l.length) rA rF rC rO rB rY rP rb) := by
    intro t
    induction t with
    | nil =>
      intro i n m cd Q tal q rt ru rm rg rp rq rA rF U ry rl wt rx rd y2 hi ht hnl s3 s4 hq hU hrx hrw hrd
      have hi : i = l.length := by simpa using hi
      subst hi
      refine r_iload_n dX9_dance_49 rfl ?_
      refine r_aload_n dX9_dance_50 rfl ?_
      refine r_get dX9_dance_51 fX9_239 rfl rfl ?_
      refine r_icmp_geN 171 dX9_dance_54 (by decide) (by omega) (by omega) (fun h54 => ?_) (fun h54 => ?_)
      · refine r_pc 171 rfl ?_
        refine r_aload_n dX9_dance_171 rfl ?_
        refine r_get dX9_dance_172 fX9_239 rfl rfl ?_
        exact r_iretP dX9_dance_175 rfl ⟨rfl, by show DPr l (l.length, (n, m, cd, Q, tal)) kn kc kQ b ik fr R _; rw [DPr, if_neg (Nat.lt_irrefl _), hU]; exact ⟨_, _, _, _, _, _, _, _, _, _, _, _, _, _, _, _, _, _, _, _, _, _, _, _, _, _, _, rfl, ⟨⟨Nat.zero_le _, (fun j h => absurd h (Nat.not_lt_zero _)), s3, s4, s5, Nat.zero_le _⟩, (fun j h => absurd h (Nat.not_lt_zero _)), hrx, hrw, hrz, hrk, (fun j h => absurd h (Nat.not_lt_zero _)), hrd⟩⟩⟩
      · exact absurd h54 (by omega)
    | cons x t ih =>
      intro i n m cd Q tal q rt ru rm rg rp rq rA rF U ry rl wt rx rd y2 hi ht hnl s3 s4 hq hU hrx hrw hrd
      rw [List.length_cons] at hi hnl
      have hil : i < l.length := by omega
      have hx : l.getD i 0 = x := by
        have : l[i]? = some x := by rw [← List.head?_drop, ← ht]; rfl
        rw [List.getD_eq_getElem?_getD, this]; rfl
      have hcx := t3 _ (getD_mem hil)
      rw [hx] at hcx
      have hx31 : x < 2 ^ 31 := by omega
      have e0 : putL rR l i = nI x := by rw [putL_at rR hil, hx]
      have hnx := nxC_at (q := q) hcx
      have hVq : Vq q := by rw [hq]; exact s4.2.2.1 n s3
      have hm := s4.1
      rw [show dgo (x :: t) i (n, m, cd, Q, tal) = (match nxC (Q n) (cnr x) with | none => (i, (n, m, cd, Q, tal)) | some q' => dgo t (i + 1) (dstep x q' (n, m, cd, Q, tal))) from rfl, ← hq]
      cases ho : POK (sqc q) (sqf q) (x / 100) (x % 100) with
      | false =>
        rw [ho] at hnx
        dsimp only at hnx
        rw [hnx]
        dsimp only
        have hcn := cnt_le (wvb (fwv q x)) 8
        have hy9 := PY_lt (sqc q) (sqf q) (x / 100) (x % 100)
        by_cases hy : PY (sqc q) (sqf q) (x / 100) (x % 100) = 0
        · have L2 : ∀ (k d : Nat) (rt ru rm rg : Nat → Int32) (rp : Int32) (rl : Nat → Int32), d + k = 8 → (∀ j, j < cnt (wvb (fwv q x)) d → rl j = nrw (fwv q x) (fun _ => 0) d j) → Rp mX9_dance 10 0 0 w0 (Top (nI i) (DPr l (i, (n, m, cd, Q, tal)) kn kc kQ b ik fr R)) 0 0 92 [some (.ref 100), some (.int (nI i)), some (.int (nI d))] [] (R, mW (fun j => nI (rqc (bt (q)) j)) (fun j => nI (rqf (bt (q)) j)) (fun x => stN (who (rqc (bt (q))) 8 x)) rt ru rm rg rp (nI (PY (sqc q) (sqf q) (x / 100) (x % 100))) (fun j => nI (PW (sqc q) (sqf q) (x / 100) (x % 100) j)) rl (nI (cnt (wvb (fwv q x)) d)) (fY q x) (wt) rk rx rz rd (nI n) (U) (rkI ik kn) rT (putL rR l) (nI 0) (nI l.length) rA rF rC rO rB rY rP rb) := by
            intro k
            induction k with
            | zero =>
              intro d rt ru rm rg rp rl hd hrl
              have : d = 8 := by omega
              subst this
              refine r_iload_n dX9_dance_92 rfl ?_
              refine r_bipush (v := (nI 8)) dX9_dance_93 (by decide) ?_
              refine r_icmp_geN 153 dX9_dance_95 (by decide) (by omega) (by omega) (fun h95 => ?_) (fun h95 => ?_)
              · refine r_pc 153 rfl ?_
                refine r_iload_n dX9_dance_153 rfl ?_
                exact r_iretP dX9_dance_154 rfl ⟨rfl, by show DPr l (i, (n, m, cd, Q, tal)) kn kc kQ b ik fr R _; rw [DPr, if_pos hil]; dsimp only; rw [hx, ← hq, hU]; exact ⟨_, _, _, _, _, _, _, _, _, _, _, _, _, _, _, _, _, _, _, _, _, _, _, _, _, _, _, rfl, ⟨⟨Nat.zero_le _, (fun j h => absurd h (Nat.not_lt_zero _)), s3, s4, s5, hcn⟩, (fun j h => absurd h (Nat.not_lt_zero _)), hrx, hrw, hrz, hrk, hrl, hrd⟩⟩⟩
              · exact absurd h95 (by omega)
            | succ k ih2 =>
              intro d rt ru rm rg rp rl hd hrl
              have hd8 : d < 8 := by omega
              have hcd := cnt_le (wvb (fwv q x)) d
              have hw9 : fwv q x d < 10 := PW_lt _ _ _ _ _
              have ih2 := fun rl => ih2 (d + 1) rt ru rm rg rp rl (by omega)
              unfold cnt nrw at ih2
              have e1 : (fun j => nI (PW (sqc q) (sqf q) (x / 100) (x % 100) j)) d = nI (fwv q x d) := rfl
              cases hb : wvb (fwv q x) d with
              | true =>
                rw [hb] at ih2
                dsimp only at ih2
                have hne : ¬ fwv q x d = 0 := by simpa [wvb] using hb
                refine r_iload_n dX9_dance_92 rfl ?_
                refine r_bipush (v := (nI 8)) dX9_dance_93 (by decide) ?_
                refine r_icmp_geN 153 dX9_dance_95 (by decide) (by omega) (by omega) (fun h95 => ?_) (fun h95 => ?_)
                · exact absurd h95 (by omega)
                · refine r_pc 98 rfl ?_
                  refine r_aload_n dX9_dance_98 rfl ?_
                  refine r_get dX9_dance_99 fX9_193 rfl rfl ?_
                  refine r_topi _ (congrArg nI hy) ?_
                  refine r_if_ne 153 dX9_dance_102 (by decide) (fun h102 => ?_) (fun h102 => ?_)
                  · exact absurd rfl h102
                  · refine r_pc 105 rfl ?_
                    refine r_aload_n dX9_dance_105 rfl ?_
                    refine r_get dX9_dance_106 fX9_83 rfl rfl ?_
                    refine r_iload_n dX9_dance_109 rfl ?_
                    refine r_iald dX9_dance_110 rfl rfl hd8 (by decide) ?_
                    refine r_topi _ e1 ?_
                    refine r_if_ne 117 dX9_dance_111 (by decide) (fun h111 => ?_) (fun h111 => ?_)
                    · refine r_pc 117 rfl ?_
                      refine r_aload_n dX9_dance_117 rfl ?_
                      refine r_get dX9_dance_118 fX9_86 rfl rfl ?_
                      refine r_aload_n dX9_dance_121 rfl ?_
                      refine r_get dX9_dance_122 fX9_262 rfl rfl ?_
                      refine r_bipush (v := (nI 10)) dX9_dance_125 (by decide) ?_
                      refine r_pc 127 rfl ?_
                      refine r_iload_n dX9_dance_127 rfl ?_
                      refine r_imulN dX9_dance_128 ?_
                      refine r_aload_n dX9_dance_129 rfl ?_
                      refine r_get dX9_dance_130 fX9_83 rfl rfl ?_
                      refine r_iload_n dX9_dance_133 rfl ?_
                      refine r_pc 134 rfl ?_
                      refine r_iald dX9_dance_134 rfl rfl hd8 (by decide) ?_
                      refine r_topi _ e1 ?_
                      refine r_iaddN dX9_dance_135 ?_
                      refine r_iast (w2 := (_, mW _ _ _ _ _ _ _ _ _ _ _ _ _ _ _ _ _ _ _ _ _ _ _ _ _ _ _ _ _ _ _ _ _)) dX9_dance_136 rfl rfl (by omega) (by decide) rfl ?_
                      refine r_aload_n dX9_dance_137 rfl ?_
                      refine r_dup dX9_dance_138 rfl ?_
                      refine r_pc 139 rfl ?_
                      refine r_get dX9_dance_139 fX9_262 rfl rfl ?_
                      refine r_iconst (v := (nI 1)) dX9_dance_142 (by decide) ?_
                      refine r_iaddN dX9_dance_143 ?_
                      refine r_put (w2 := (_, mW _ _ _ _ _ _ _ _ _ _ _ _ _ _ _ _ _ _ _ _ _ _ _ _ _ _ _ _ _ _ _ _ _)) dX9_dance_144 fX9_262 rfl rfl (Nat.le_of_ble_eq_true rfl) (fun _ => rfl) (fun _ => rfl) rfl ?_
                      refine r_inc1 (ls' := [_, _, _]) dX9_dance_147 (by decide) rfl rfl ?_
                      refine r_pc 150 rfl ?_
                      refine r_goto 92 dX9_dance_150 (by decide) ?_
                      refine r_pc 92 rfl ?_
                      exact ih2 _ (upd_lt (g := upd (nrw (fwv q x) (fun _ => 0) d) (cnt (wvb (fwv q x)) d) (nI (10 * d + fwv q x d))) (fun j hj => by rw [pk_un (by omega)]; exact hrl j hj) (by rw [pk_us]))
                    · exact absurd (nI_z (by omega) h111) hne
              | false =>
                rw [hb] at ih2
                dsimp only at ih2
                have hne : fwv q x d = 0 := by simpa [wvb] using hb
                refine r_iload_n dX9_dance_92 rfl ?_
                refine r_bipush (v := (nI 8)) dX9_dance_93 (by decide) ?_
                refine r_icmp_geN 153 dX9_dance_95 (by decide) (by omega) (by omega) (fun h95 => ?_) (fun h95 => ?_)
                · exact absurd h95 (by omega)
                · refine r_pc 98 rfl ?_
                  refine r_aload_n dX9_dance_98 rfl ?_
                  refine r_get dX9_dance_99 fX9_193 rfl rfl ?_
                  refine r_topi _ (congrArg nI hy) ?_
                  refine r_if_ne 153 dX9_dance_102 (by decide) (fun h102 => ?_) (fun h102 => ?_)
                  · exact absurd rfl h102
                  · refine r_pc 105 rfl ?_
                    refine r_aload_n dX9_dance_105 rfl ?_
                    refine r_get dX9_dance_106 fX9_83 rfl rfl ?_
                    refine r_iload_n dX9_dance_109 rfl ?_
                    refine r_iald dX9_dance_110 rfl rfl hd8 (by decide) ?_
                    refine r_topi _ e1 ?_
                    rw [hne]
                    refine r_if_ne 117 dX9_dance_111 (by decide) (fun h111 => ?_) (fun h111 => ?_)
                    · exact absurd rfl h111
                    · refine r_pc 114 rfl ?_
                      refine r_goto 147 dX9_dance_114 (by decide) ?_
                      refine r_inc1 (ls' := [_, _, _]) dX9_dance_147 (by decide) rfl rfl ?_
                      refine r_goto 92 dX9_dance_150 (by decide) ?_
                      refine r_pc 92 rfl ?_
                      exact ih2 _ hrl
          refine r_iload_n dX9_dance_49 rfl ?_
          refine r_aload_n dX9_dance_50 rfl ?_
          refine r_get dX9_dance_51 fX9_239 rfl rfl ?_
          refine r_icmp_geN 171 dX9_dance_54 (by decide) (by omega) (by omega) (fun h54 => ?_) (fun h54 => ?_)
          · exact absurd h54 (by omega)
          · refine r_pc 57 rfl ?_
            refine r_aload_n dX9_dance_57 rfl ?_
            refine r_aload_n dX9_dance_58 rfl ?_
            refine r_get dX9_dance_59 fX9_112 rfl rfl ?_
            refine r_iload_n dX9_dance_62 rfl ?_
            refine r_iald dX9_dance_63 rfl rfl (by omega) (by decide) ?_
            refine r_pc 64 rfl ?_
            refine r_topi _ e0 ?_
            refine r_bipush (v := (nI 100)) dX9_dance_64 (by decide) ?_
            refine r_idivN dX9_dance_66 (by omega) (by decide) (by decide) ?_
            refine r_aload_n dX9_dance_67 rfl ?_
            refine r_get dX9_dance_68 fX9_112 rfl rfl ?_
            refine r_iload_n dX9_dance_71 rfl ?_
            refine r_pc 72 rfl ?_
            refine r_iald dX9_dance_72 rfl rfl (by omega) (by decide) ?_
            refine r_topi _ e0 ?_
            refine r_bipush (v := (nI 100)) dX9_dance_73 (by decide) ?_
            refine r_iremN dX9_dance_75 (by omega) (by decide) (by decide) ?_
            refine r_cVP dX9_dance_76 (m_tries hcx.1 hcx.2 (Sq_bt _) (Sd_bt _) hVq.1) lX9_268 rfl rfl rfl (by decide) ⟨Nat.le_refl _, Nat.le_refl _⟩ (Nat.le_of_ble_eq_true rfl) (fun r w2 hpz => ?_)
            obtain ⟨rfl, rt2, ru2, rm2, rg2, rp2, rfl, hk⟩ := hpz
            rw [ho]
            refine r_pc 79 rfl ?_
            refine r_if_ne 155 dX9_dance_79 (by decide) (fun h79 => ?_) (fun h79 => ?_)
            · exact absurd rfl h79
            · refine r_pc 82 rfl ?_
              refine r_aload_n dX9_dance_82 rfl ?_
              refine r_aload_n dX9_dance_83 rfl ?_
              refine r_get dX9_dance_84 fX9_193 rfl rfl ?_
              refine r_put (w2 := (_, mW _ _ _ _ _ _ _ _ _ _ _ _ _ _ _ _ _ _ _ _ _ _ _ _ _ _ _ _ _ _ _ _ _)) dX9_dance_87 fX9_265 rfl rfl (Nat.le_of_ble_eq_true rfl) (fun _ => rfl) (fun _ => rfl) rfl ?_
              refine r_iconst (v := (nI 0)) dX9_dance_90 (by decide) ?_
              refine r_pc 91 rfl ?_
              refine r_istore_n (ls' := [_, _, _]) dX9_dance_91 (by decide) rfl ?_
              refine r_pc 92 rfl ?_
              exact L2 8 0 _ _ _ _ _ _ (by omega) (fun j h => absurd h (Nat.not_lt_zero _))
        · have hf0 := fN_zero hy
          refine r_iload_n dX9_dance_49 rfl ?_
          refine r_aload_n dX9_dance_50 rfl ?_
          refine r_get dX9_dance_51 fX9_239 rfl rfl ?_
          refine r_icmp_geN 171 dX9_dance_54 (by decide) (by omega) (by omega) (fun h54 => ?_) (fun h54 => ?_)
          · exact absurd h54 (by omega)
          · refine r_pc 57 rfl ?_
            refine r_aload_n dX9_dance_57 rfl ?_
            refine r_aload_n dX9_dance_58 rfl ?_
            refine r_get dX9_dance_59 fX9_112 rfl rfl ?_
            refine r_iload_n dX9_dance_62 rfl ?_
            refine r_iald dX9_dance_63 rfl rfl (by omega) (by decide) ?_
            refine r_pc 64 rfl ?_
            refine r_topi _ e0 ?_
            refine r_bipush (v := (nI 100)) dX9_dance_64 (by decide) ?_
            refine r_idivN dX9_dance_66 (by omega) (by decide) (by decide) ?_
            refine r_aload_n dX9_dance_67 rfl ?_
            refine r_get dX9_dance_68 fX9_112 rfl rfl ?_
            refine r_iload_n dX9_dance_71 rfl ?_
            refine r_pc 72 rfl ?_
            refine r_iald dX9_dance_72 rfl rfl (by omega) (by decide) ?_
            refine r_topi _ e0 ?_
            refine r_bipush (v := (nI 100)) dX9_dance_73 (by decide) ?_
            refine r_iremN dX9_dance_75 (by omega) (by decide) (by decide) ?_
            refine r_cVP dX9_dance_76 (m_tries hcx.1 hcx.2 (Sq_bt _) (Sd_bt _) hVq.1) lX9_268 rfl rfl rfl (by decide) ⟨Nat.le_refl _, Nat.le_refl _⟩ (Nat.le_of_ble_eq_true rfl) (fun r w2 hpz => ?_)
            obtain ⟨rfl, rt2, ru2, rm2, rg2, rp2, rfl, hk⟩ := hpz
            rw [ho]
            refine r_pc 79 rfl ?_
            refine r_if_ne 155 dX9_dance_79 (by decide) (fun h79 => ?_) (fun h79 => ?_)
            · exact absurd rfl h79
            · refine r_pc 82 rfl ?_
              refine r_aload_n dX9_dance_82 rfl ?_
              refine r_aload_n dX9_dance_83 rfl ?_
              refine r_get dX9_dance_84 fX9_193 rfl rfl ?_
              refine r_put (w2 := (_, mW _ _ _ _ _ _ _ _ _ _ _ _ _ _ _ _ _ _ _ _ _ _ _ _ _ _ _ _ _ _ _ _ _)) dX9_dance_87 fX9_265 rfl rfl (Nat.le_of_ble_eq_true rfl) (fun _ => rfl) (fun _ => rfl) rfl ?_
              refine r_iconst (v := (nI 0)) dX9_dance_90 (by decide) ?_
              refine r_pc 91 rfl ?_
              refine r_istore_n (ls' := [_, _, _]) dX9_dance_91 (by decide) rfl ?_
              refine r_iload_n dX9_dance_92 rfl ?_
              refine r_bipush (v := (nI 8)) dX9_dance_93 (by decide) ?_
              refine r_icmp_geN 153 dX9_dance_95 (by decide) (by omega) (by omega) (fun h95 => ?_) (fun h95 => ?_)
              · first | exact absurd h95 (by decide) | exact absurd (by decide) h95
              · refine r_pc 98 rfl ?_
                refine r_aload_n dX9_dance_98 rfl ?_
                refine r_get dX9_dance_99 fX9_193 rfl rfl ?_
                refine r_if_ne 153 dX9_dance_102 (by decide) (fun h102 => ?_) (fun h102 => ?_)
                · refine r_pc 153 rfl ?_
                  refine r_iload_n dX9_dance_153 rfl ?_
                  exact r_iretP dX9_dance_154 rfl ⟨rfl, by show DPr l (i, (n, m, cd, Q, tal)) kn kc kQ b ik fr R _; rw [DPr, if_pos hil]; dsimp only; rw [hx, ← hq, hf0, hU]; exact ⟨_, _, _, _, _, _, _, _, _, _, _, _, _, _, _, _, _, _, _, _, _, _, _, _, _, _, _, rfl, ⟨⟨Nat.zero_le _, (fun j h => absurd h (Nat.not_lt_zero _)), s3, s4, s5, Nat.zero_le _⟩, (fun j h => absurd h (Nat.not_lt_zero _)), hrx, hrw, hrz, hrk, (fun j h => absurd h (Nat.not_lt_zero _)), hrd⟩⟩⟩
                · exact absurd (nI_z (by omega) h102) hy
      | true =>
        rw [ho] at hnx
        dsimp only at hnx
        have hV1 := nxv _ _ _ hVq (cnr_lt hcx) hnx
        rw [hnx]
        generalize hqn : pkI (fun j => stI (PT (sqc q) (sqf q) (x / 100) (x % 100) j)) (fun j => nI (PU (sqc q) (sqf q) (x / 100) (x % 100) j)) 8 = qn at hV1 hnx
        dsimp only [dstep]
        have ih := fun rt ru rm rg rp rq rA rF ry rl y2 => ih (i + 1) (n + 1) (n + 1) (up cd n x) (up Q (n + 1) qn) (upd tal (x % 100) (tal (x % 100) + nI 1)) qn rt ru rm rg rp rq rA rF (nI 0) ry rl (vp_updL wt (n + 1) (bt qn)) (upd rx n (nI x)) (upd rd (x % 100) (rd (x % 100) + nI 1)) y2 (by omega) (by rw [← List.drop_drop, ← ht]; rfl) (by omega) (Nat.le_refl _) ⟨by omega, (fun j hj => by
            unfold up
            split
            · exact hcx
            · exact s4.2.1 j (by omega)), (fun j hj => by
            unfold up
            split
            · exact hV1
            · exact s4.2.2.1 j (by omega)), (by unfold up; rw [if_neg (by omega)]; exact s4.2.2.2)⟩ (by unfold up; rw [if_pos rfl]) (congrArg nI (by omega)) (fun j hj => by
            unfold up
            by_cases e : j = n
            · subst e; rw [pk_us, if_pos rfl]
            · rw [pk_un e, if_neg e]; exact hrx j (by omega)) (fun j hj => by
            unfold up
            by_cases e : j = n + 1
            · subst e; rw [pk_uLs, if_pos rfl]
            · rw [pk_uLn e, if_neg e]; exact hrw j (by omega)) (fun j hj => by
            by_cases e : j = x % 100
            · subst e; rw [pk_us, pk_us, hrd _ hj]
            · rw [pk_un e, pk_un e]; exact hrd j hj)
        refine r_iload_n dX9_dance_49 rfl ?_
        refine r_aload_n dX9_dance_50 rfl ?_
        refine r_get dX9_dance_51 fX9_239 rfl rfl ?_
        refine r_icmp_geN 171 dX9_dance_54 (by decide) (by omega) (by omega) (fun h54 => ?_) (fun h54 => ?_)
        · exact absurd h54 (by omega)
        · refine r_pc 57 rfl ?_
          refine r_aload_n dX9_dance_57 rfl ?_
          refine r_aload_n dX9_dance_58 rfl ?_
          refine r_get dX9_dance_59 fX9_112 rfl rfl ?_
          refine r_iload_n dX9_dance_62 rfl ?_
          refine r_iald dX9_dance_63 rfl rfl (by omega) (by decide) ?_
          refine r_pc 64 rfl ?_
          refine r_topi _ e0 ?_
          refine r_bipush (v := (nI 100)) dX9_dance_64 (by decide) ?_
          refine r_idivN dX9_dance_66 (by omega) (by decide) (by decide) ?_
          refine r_aload_n dX9_dance_67 rfl ?_
          refine r_get dX9_dance_68 fX9_112 rfl rfl ?_
          refine r_iload_n dX9_dance_71 rfl ?_
          refine r_pc 72 rfl ?_
          refine r_iald dX9_dance_72 rfl rfl (by omega) (by decide) ?_
          refine r_topi _ e0 ?_
          refine r_bipush (v := (nI 100)) dX9_dance_73 (by decide) ?_
          refine r_iremN dX9_dance_75 (by omega) (by decide) (by decide) ?_
          refine r_cVP dX9_dance_76 (m_tries hcx.1 hcx.2 (Sq_bt _) (Sd_bt _) hVq.1) lX9_268 rfl rfl rfl (by decide) ⟨Nat.le_refl _, Nat.le_refl _⟩ (Nat.le_of_ble_eq_true rfl) (fun r w2 hpz => ?_)
          obtain ⟨rfl, rt2, ru2, rm2, rg2, rp2, rfl, hk⟩ := hpz
          obtain ⟨k1, k2, k3⟩ := hk ho
          rw [ho]
          refine r_pc 79 rfl ?_
          refine r_if_ne 155 dX9_dance_79 (by decide) (fun h79 => ?_) (fun h79 => ?_)
          · refine r_pc 155 rfl ?_
            refine r_aload_n dX9_dance_155 rfl ?_
            refine r_aload_n dX9_dance_156 rfl ?_
            refine r_get dX9_dance_157 fX9_112 rfl rfl ?_
            refine r_iload_n dX9_dance_160 rfl ?_
            refine r_iald dX9_dance_161 rfl rfl (by omega) (by decide) ?_
            refine r_pc 162 rfl ?_
            refine r_topi _ e0 ?_
            refine r_cVv dX9_dance_162 (m_dances (q := qn) (by omega) hcx.2 hx31 (nx_btx hcx hVq.1 hnx k1 k2)) lX9_271 rfl rfl rfl (by decide) ⟨Nat.le_refl _, Nat.le_refl _⟩ (Nat.le_of_ble_eq_true rfl) ?_
            refine r_inc1 (ls' := [_, _, _]) dX9_dance_165 (by decide) rfl rfl ?_
            refine r_goto 49 dX9_dance_168 (by decide) ?_
            refine r_pc 49 rfl ?_
            exact ih _ _ _ _ _ _ _ _ _ _ _
          · exact absurd h79 (by decide)
  subst hw0
  refine r_aload_n dX9_dance_0 rfl ?_
  refine r_cV dX9_dance_1 (m_isText hBy) lX9_258 rfl rfl rfl (by decide) ⟨Nat.le_refl _, Nat.le_refl _⟩ (Nat.le_of_ble_eq_true rfl) ?_
  rw [hr, hl2]
  refine r_if_ne 15 dX9_dance_4 (by decide) (fun h4 => ?_) (fun h4 => ?_)
  · refine r_pc 15 rfl ?_
    refine r_aload_n dX9_dance_15 rfl ?_
    refine r_get dX9_dance_16 fX9_144 rfl rfl ?_
    refine r_aload_n dX9_dance_19 rfl ?_
    refine r_get dX9_dance_20 fX9_239 rfl rfl ?_
    refine r_iaddN dX9_dance_23 ?_
    refine r_pc 24 rfl ?_
    refine r_sipush (v := (nI 200)) dX9_dance_24 (by decide) ?_
    refine r_icmp_leN 33 dX9_dance_27 (by decide) (by omega) (by omega) (fun h27 => ?_) (fun h27 => ?_)
    · refine r_pc 33 rfl ?_
      refine r_aload_n dX9_dance_33 rfl ?_
      refine r_iconst (v := (nI 0)) dX9_dance_34 (by decide) ?_
      refine r_put (w2 := (_, mW _ _ _ _ _ _ _ _ _ _ _ _ _ _ _ _ _ _ _ _ _ _ _ _ _ _ _ _ _ _ _ _ _)) dX9_dance_35 fX9_262 rfl rfl (Nat.le_of_ble_eq_true rfl) (fun _ => rfl) (fun _ => rfl) rfl ?_
      refine r_aload_n dX9_dance_38 rfl ?_
      refine r_iconst (v := (nI 0)) dX9_dance_39 (by decide) ?_
      refine r_pc 40 rfl ?_
      refine r_put (w2 := (_, mW _ _ _ _ _ _ _ _ _ _ _ _ _ _ _ _ _ _ _ _ _ _ _ _ _ _ _ _ _ _ _ _ _)) dX9_dance_40 fX9_265 rfl rfl (Nat.le_of_ble_eq_true rfl) (fun _ => rfl) (fun _ => rfl) rfl ?_
      refine r_aload_n dX9_dance_43 rfl ?_
      refine r_cVv dX9_dance_44 (m_look hn hQn) lX9_255 rfl rfl rfl (by decide) ⟨Nat.le_refl _, Nat.le_refl _⟩ (Nat.le_of_ble_eq_true rfl) ?_
      refine r_iconst (v := (nI 0)) dX9_dance_47 (by decide) ?_
      refine r_istore_n (ls' := [_, _, _]) dX9_dance_48 (by decide) rfl ?_
      refine r_pc 49 rfl ?_
      refine r_pc 49 rfl ?_
      exact Lp l 0 n m cd Q tal (Q n) _ _ _ _ _ _ _ _ _ _ _ _ _ _ _ (Nat.zero_add _) rfl hl s3 s4 rfl rfl hrx hrw hrd
    · exact absurd h27 (by omega)
  · exact absurd h4 (by decide)
def rv (l : List Nat) (q0 : Int64) (m k : Nat) : Option Int64 → Int32
  | none => -2
  | some q' => if q' = q0 then nI k else rnd l q0 m (k + 1) q'
theorem rnd_rv (l : List Nat) (q0 : Int64) (m k : Nat) (q : Int64) : rnd l q0 (m + 1) k q = rv l q0 m k (rgo q l) := by
  unfold rnd rv
  cases rgo q l <;> rfl
theorem d_round_1 (hR : RI L b n m cd Q ik kn kc kQ fn fr fz tal R w) (h : (tx b L).1 = none) : SemP mX9_round 10 0 0 [.ref 100] w (Top (rnd (tx b L).2 (Q n) 100 1 (Q n)) (RI (0) b n m cd Q ik kn kc kQ fn fr fz tal R)) := by
  obtain ⟨rc, rf, ro, rt, ru, rm, rg, rp, rq, ry, rl, wt, rk, rx, rz, rd, rT, rR, rN, rA, rF, rC, rO, rB, rY, rP, rb, rfl, ⟨s1, s2, s3, s4, s5, s6⟩, hB, hrx, hrw, hrz, hrk, hrl, hrd⟩ := hR
  have hm : m ≤ 200 := s4.1
  have hkn : kn ≤ 200 := s5.1
  have hL : L ≤ 120 := s1
  have s3 : n ≤ m := s3
  have hn : n ≤ 200 := Nat.le_trans s3 s4.1
  have s6 : fn ≤ 8 := s6
  have hrx : ∀ j, j < m → rx j = nI (cd j) := hrx
  have hrw : ∀ j, j ≤ m → wt j = bt (Q j) := hrw
  have hrl : ∀ j, j < fn → rl j = fr j := hrl
  have hrd : ∀ j, j < 12 → rd j = tal j := hrd
  have hQn : wt n = bt (Q n) := hrw n s3
  have hVn : Vq (Q n) := s4.2.2.1 n s3
  refine semP_of (by decide) (Nat.le_of_ble_eq_true rfl) rfl ?_
  have hBy : By rT L b := ⟨s1, fun j hj => ⟨hB j hj, s2 j hj⟩⟩
  obtain ⟨t1, t2, t3⟩ := tx_ok s1 h
  have hr : (rtx b L 121 0 []).1 = none := h
  generalize hlt : (tx b L).2 = l at t1 t2 t3
  have hl2 : (rtx b L 121 0 []).2 = l := hlt
  generalize hw0 : (R, mW rc rf ro rt ru rm rg rp rq ry rl (nI fn) (fz) (wt) rk rx rz rd (nI n) (nI (m - n)) (rkI ik kn) rT rR (nI L) rN rA rF rC rO rB rY rP rb) = w0
  have Lp : ∀ (m' k : Nat) (q : Int64) (rt ru rm rg : Nat → Int32) (rp rq rA rF : Int32) (ry : Nat → Int32) (y2 : Option Value), k + m' = 101 → Vq q → Rp mX9_round 10 0 0 w0 (Top (rnd l (Q n) m' k q) (RI (0) b n m cd Q ik kn kc kQ fn fr fz tal R)) 0 0 21 [some (.ref 100), some (.int (nI k)), y2] [] (R, mW (fun j => nI (rqc (bt (q)) j)) (fun j => nI (rqf (bt (q)) j)) (fun x => stN (who (rqc (bt (q))) 8 x)) rt ru rm rg rp rq ry rl (nI fn) (fz) (wt) rk rx rz rd (nI n) (nI (m - n)) (rkI ik kn) rT (putL rR l) (nI 0) (nI l.length) rA rF rC rO rB rY rP rb) := by
    intro m'
    induction m' with
    | zero =>
      intro k q rt ru rm rg rp rq rA rF ry y2 hk hq
      refine r_iload_n dX9_round_21 rfl ?_
      refine r_bipush (v := (nI 100)) dX9_round_22 (by decide) ?_
      refine r_icmp_gtN 104 dX9_round_24 (by decide) (by omega) (by omega) (fun h24 => ?_) (fun h24 => ?_)
      · refine r_pc 104 rfl ?_
        refine r_bipush (v := (-2)) dX9_round_104 (by decide) ?_
        exact r_iretP dX9_round_106 rfl ⟨rfl, _, _, _, _, _, _, _, _, _, _, _, _, _, _, _, _, _, _, _, _, _, _, _, _, _, _, _, rfl, ⟨⟨Nat.zero_le _, (fun j h => absurd h (Nat.not_lt_zero _)), s3, s4, s5, s6⟩, (fun j h => absurd h (Nat.not_lt_zero _)), hrx, hrw, hrz, hrk, hrl, hrd⟩⟩
      · exact absurd h24 (by omega)
    | succ m' ih =>
      intro k q rt ru rm rg rp rq rA rF ry y2 hk hq
      rw [rnd_rv]
      have Li : ∀ (t : List Nat) (i : Nat) (q1 : Int64) (rt ru rm rg : Nat → Int32) (rp rq : Int32) (ry : Nat → Int32), i + t.length = l.length → t = l.drop i → Vq q1 → Rp mX9_round 10 0 0 w0 (Top (rv l (Q n) m' k (rgo q1 t)) (RI (0) b n m cd Q ik kn kc kQ fn fr fz tal R)) 0 0 29 [some (.ref 100), some (.int (nI k)), some (.int (nI i))] [] (R, mW (fun j => nI (rqc (bt (q1)) j)) (fun j => nI (rqf (bt (q1)) j)) (fun x => stN (who (rqc (bt (q1))) 8 x)) rt ru rm rg rp rq ry rl (nI fn) (fz) (wt) rk rx rz rd (nI n) (nI (m - n)) (rkI ik kn) rT (putL rR l) (nI 0) (nI l.length) rA rF rC rO rB rY rP rb) := by
        intro t
        induction t with
        | nil =>
          intro i q1 rt ru rm rg rp rq ry hi ht hq1
          have hi : i = l.length := by simpa using hi
          show Rp mX9_round 10 0 0 w0 (Top (if q1 = Q n then nI k else rnd l (Q n) m' (k + 1) q1) (RI (0) b n m cd Q ik kn kc kQ fn fr fz tal R)) 0 0 29 _ _ _
          have hbp := bt_pk q1
          by_cases e : q1 = Q n
          · rw [if_pos e]
            refine r_iload_n dX9_round_29 rfl ?_
            refine r_aload_n dX9_round_30 rfl ?_
            refine r_get dX9_round_31 fX9_239 rfl rfl ?_
            refine r_icmp_geN 79 dX9_round_34 (by decide) (by omega) (by omega) (fun h34 => ?_) (fun h34 => ?_)
            · refine r_pc 79 rfl ?_
              refine r_aload_n dX9_round_79 rfl ?_
              refine r_cV dX9_round_80 m_code lX9_136 rfl rfl rfl (by decide) ⟨Nat.le_refl _, Nat.le_refl _⟩ (Nat.le_of_ble_eq_true rfl) ?_
              rw [hbp]
              refine r_aload_n dX9_round_83 rfl ?_
              refine r_get dX9_round_84 fX9_89 rfl rfl ?_
              refine r_aload_n dX9_round_87 rfl ?_
              refine r_pc 88 rfl ?_
              refine r_get dX9_round_88 fX9_144 rfl rfl ?_
              refine r_lald dX9_round_91 rfl rfl (by omega) (by decide) ?_
              refine r_lcmp dX9_round_92 ?_
              refine r_if_ne 98 dX9_round_93 (by decide) (fun h93 => ?_) (fun h93 => ?_)
              · exact absurd ((lg_cmp_eq _ _).mpr (by rw [hQn, e])) h93
              · refine r_pc 96 rfl ?_
                refine r_iload_n dX9_round_96 rfl ?_
                exact r_iretP dX9_round_97 rfl ⟨rfl, _, _, _, _, _, _, _, _, _, _, _, _, _, _, _, _, _, _, _, _, _, _, _, _, _, _, _, rfl, ⟨⟨Nat.zero_le _, (fun j h => absurd h (Nat.not_lt_zero _)), s3, s4, s5, s6⟩, (fun j h => absurd h (Nat.not_lt_zero _)), hrx, hrw, hrz, hrk, hrl, hrd⟩⟩
            · exact absurd h34 (by omega)
          · rw [if_neg e]
            refine r_iload_n dX9_round_29 rfl ?_
            refine r_aload_n dX9_round_30 rfl ?_
            refine r_get dX9_round_31 fX9_239 rfl rfl ?_
            refine r_icmp_geN 79 dX9_round_34 (by decide) (by omega) (by omega) (fun h34 => ?_) (fun h34 => ?_)
            · refine r_pc 79 rfl ?_
              refine r_aload_n dX9_round_79 rfl ?_
              refine r_cV dX9_round_80 m_code lX9_136 rfl rfl rfl (by decide) ⟨Nat.le_refl _, Nat.le_refl _⟩ (Nat.le_of_ble_eq_true rfl) ?_
              rw [hbp]
              refine r_aload_n dX9_round_83 rfl ?_
              refine r_get dX9_round_84 fX9_89 rfl rfl ?_
              refine r_aload_n dX9_round_87 rfl ?_
              refine r_pc 88 rfl ?_
              refine r_get dX9_round_88 fX9_144 rfl rfl ?_
              refine r_lald dX9_round_91 rfl rfl (by omega) (by decide) ?_
              refine r_lcmp dX9_round_92 ?_
              refine r_if_ne 98 dX9_round_93 (by decide) (fun h93 => ?_) (fun h93 => ?_)
              · refine r_pc 98 rfl ?_
                refine r_inc1 (ls' := [_, _, _]) dX9_round_98 (by decide) rfl rfl ?_
                refine r_goto 21 dX9_round_101 (by decide) ?_
                refine r_pc 21 rfl ?_
                exact ih (k + 1) q1 _ _ _ _ _ _ _ _ _ _ (by omega) hq1
              · exact absurd (bt_inj hq1 hVn (((lg_cmp_eq _ _).mp h93).trans hQn)) e
            · exact absurd h34 (by omega)
        | cons x t ih2 =>
          intro i q1 rt ru rm rg rp rq ry hi ht hq1
          rw [List.length_cons] at hi
          have hil : i < l.length := by omega
          have hx : l.getD i 0 = x := by
            have : l[i]? = some x := by rw [← List.head?_drop, ← ht]; rfl
            rw [List.getD_eq_getElem?_getD, this]; rfl
          have hcx := t3 _ (getD_mem hil)
          rw [hx] at hcx
          have hx31 : x < 2 ^ 31 := by omega
          have e0 : putL rR l i = nI x := by rw [putL_at rR hil, hx]
          have hnx := nxC_at (q := q1) hcx
          rw [show rgo q1 (x :: t) = (match nxC q1 (cnr x) with | none => none | some q' => rgo q' t) from rfl]
          cases ho : POK (sqc q1) (sqf q1) (x / 100) (x % 100) with
          | false =>
            rw [ho] at hnx
            dsimp only at hnx
            rw [hnx]
            refine r_iload_n dX9_round_29 rfl ?_
            refine r_aload_n dX9_round_30 rfl ?_
            refine r_get dX9_round_31 fX9_239 rfl rfl ?_
            refine r_icmp_geN 79 dX9_round_34 (by decide) (by omega) (by omega) (fun h34 => ?_) (fun h34 => ?_)
            · exact absurd h34 (by omega)
            · refine r_pc 37 rfl ?_
              refine r_aload_n dX9_round_37 rfl ?_
              refine r_aload_n dX9_round_38 rfl ?_
              refine r_get dX9_round_39 fX9_112 rfl rfl ?_
              refine r_iload_n dX9_round_42 rfl ?_
              refine r_iald dX9_round_43 rfl rfl (by omega) (by decide) ?_
              refine r_pc 44 rfl ?_
              refine r_topi _ e0 ?_
              refine r_bipush (v := (nI 100)) dX9_round_44 (by decide) ?_
              refine r_idivN dX9_round_46 (by omega) (by decide) (by decide) ?_
              refine r_aload_n dX9_round_47 rfl ?_
              refine r_get dX9_round_48 fX9_112 rfl rfl ?_
              refine r_iload_n dX9_round_51 rfl ?_
              refine r_pc 52 rfl ?_
              refine r_iald dX9_round_52 rfl rfl (by omega) (by decide) ?_
              refine r_topi _ e0 ?_
              refine r_bipush (v := (nI 100)) dX9_round_53 (by decide) ?_
              refine r_iremN dX9_round_55 (by omega) (by decide) (by decide) ?_
              refine r_cVP dX9_round_56 (m_tries hcx.1 hcx.2 (Sq_bt _) (Sd_bt _) hq1.1) lX9_268 rfl rfl rfl (by decide) ⟨Nat.le_refl _, Nat.le_refl _⟩ (Nat.le_of_ble_eq_true rfl) (fun r w2 hpz => ?_)
              obtain ⟨rfl, rt2, ru2, rm2, rg2, rp2, rfl, hk3⟩ := hpz
              rw [ho]
              refine r_pc 59 rfl ?_
              refine r_if_ne 65 dX9_round_59 (by decide) (fun h59 => ?_) (fun h59 => ?_)
              · exact absurd rfl h59
              · refine r_pc 62 rfl ?_
                refine r_bipush (v := (-2)) dX9_round_62 (by decide) ?_
                exact r_iretP dX9_round_64 rfl ⟨rfl, _, _, _, _, _, _, _, _, _, _, _, _, _, _, _, _, _, _, _, _, _, _, _, _, _, _, _, rfl, ⟨⟨Nat.zero_le _, (fun j h => absurd h (Nat.not_lt_zero _)), s3, s4, s5, s6⟩, (fun j h => absurd h (Nat.not_lt_zero _)), hrx, hrw, hrz, hrk, hrl, hrd⟩⟩
          | true =>
            rw [ho] at hnx
            dsimp only at hnx
            have hV1 := nxv _ _ _ hq1 (cnr_lt hcx) hnx
            rw [hnx]
            generalize hqn : pkI (fun j => stI (PT (sqc q1) (sqf q1) (x / 100) (x % 100) j)) (fun j => nI (PU (sqc q1) (sqf q1) (x / 100) (x % 100) j)) 8 = qn at hV1 hnx
            dsimp only
            have ih2 := fun rt ru rm rg rp rq ry => ih2 (i + 1) qn rt ru rm rg rp rq ry (by omega) (by rw [← List.drop_drop, ← ht]; rfl) hV1
            refine r_iload_n dX9_round_29 rfl ?_
            refine r_aload_n dX9_round_30 rfl ?_
            refine r_get dX9_round_31 fX9_239 rfl rfl ?_
            refine r_icmp_geN 79 dX9_round_34 (by decide) (by omega) (by omega) (fun h34 => ?_) (fun h34 => ?_)
            · exact absurd h34 (by omega)
            · refine r_pc 37 rfl ?_
              refine r_aload_n dX9_round_37 rfl ?_
              refine r_aload_n dX9_round_38 rfl ?_
              refine r_get dX9_round_39 fX9_112 rfl rfl ?_
              refine r_iload_n dX9_round_42 rfl ?_
              refine r_iald dX9_round_43 rfl rfl (by omega) (by decide) ?_
              refine r_pc 44 rfl ?_
              refine r_topi _ e0 ?_
              refine r_bipush (v := (nI 100)) dX9_round_44 (by decide) ?_
              refine r_idivN dX9_round_46 (by omega) (by decide) (by decide) ?_
              refine r_aload_n dX9_round_47 rfl ?_
              refine r_get dX9_round_48 fX9_112 rfl rfl ?_
              refine r_iload_n dX9_round_51 rfl ?_
              refine r_pc 52 rfl ?_
              refine r_iald dX9_round_52 rfl rfl (by omega) (by decide) ?_
              refine r_topi _ e0 ?_
              refine r_bipush (v := (nI 100)) dX9_round_53 (by decide) ?_
              refine r_iremN dX9_round_55 (by omega) (by decide) (by decide) ?_
              refine r_cVP dX9_round_56 (m_tries hcx.1 hcx.2 (Sq_bt _) (Sd_bt _) hq1.1) lX9_268 rfl rfl rfl (by decide) ⟨Nat.le_refl _, Nat.le_refl _⟩ (Nat.le_of_ble_eq_true rfl) (fun r w2 hpz => ?_)
              obtain ⟨rfl, rt2, ru2, rm2, rg2, rp2, rfl, hk3⟩ := hpz
              obtain ⟨k1, k2, k3⟩ := hk3 ho
              rw [ho]
              refine r_pc 59 rfl ?_
              refine r_if_ne 65 dX9_round_59 (by decide) (fun h59 => ?_) (fun h59 => ?_)
              · refine r_pc 65 rfl ?_
                refine r_aload_n dX9_round_65 rfl ?_
                refine r_aload_n dX9_round_66 rfl ?_
                refine r_cV dX9_round_67 m_made lX9_249 rfl rfl rfl (by decide) ⟨Nat.le_refl _, Nat.le_refl _⟩ (Nat.le_of_ble_eq_true rfl) ?_
                rw [nx_btx hcx hq1.1 hnx k1 k2]
                refine r_cVv dX9_round_70 (m_looks _) lX9_140 rfl rfl rfl (by decide) ⟨Nat.le_refl _, Nat.le_refl _⟩ (Nat.le_of_ble_eq_true rfl) ?_
                refine r_inc1 (ls' := [_, _, _]) dX9_round_73 (by decide) rfl rfl ?_
                refine r_pc 76 rfl ?_
                refine r_goto 29 dX9_round_76 (by decide) ?_
                refine r_pc 29 rfl ?_
                exact ih2 _ _ _ _ _ _ _
              · exact absurd h59 (by decide)
      refine r_iload_n dX9_round_21 rfl ?_
      refine r_bipush (v := (nI 100)) dX9_round_22 (by decide) ?_
      refine r_icmp_gtN 104 dX9_round_24 (by decide) (by omega) (by omega) (fun h24 => ?_) (fun h24 => ?_)
      · exact absurd h24 (by omega)
      · refine r_pc 27 rfl ?_
        refine r_iconst (v := (nI 0)) dX9_round_27 (by decide) ?_
        refine r_istore_n (ls' := [_, _, _]) dX9_round_28 (by decide) rfl ?_
        refine r_pc 29 rfl ?_
        exact Li l 0 q _ _ _ _ _ _ _ (Nat.zero_add _) rfl hq
  subst hw0
  refine r_aload_n dX9_round_0 rfl ?_
  refine r_cV dX9_round_1 (m_isText hBy) lX9_258 rfl rfl rfl (by decide) ⟨Nat.le_refl _, Nat.le_refl _⟩ (Nat.le_of_ble_eq_true rfl) ?_
  rw [hr, hl2]
  refine r_if_ne 15 dX9_round_4 (by decide) (fun h4 => ?_) (fun h4 => ?_)
  · refine r_pc 15 rfl ?_
    refine r_aload_n dX9_round_15 rfl ?_
    refine r_cVv dX9_round_16 (m_look hn hQn) lX9_255 rfl rfl rfl (by decide) ⟨Nat.le_refl _, Nat.le_refl _⟩ (Nat.le_of_ble_eq_true rfl) ?_
    refine r_iconst (v := (nI 1)) dX9_round_19 (by decide) ?_
    refine r_istore_n (ls' := [_, _, _]) dX9_round_20 (by decide) rfl ?_
    refine r_pc 21 rfl ?_
    exact Lp 100 1 (Q n) _ _ _ _ _ _ _ _ _ _ (by omega) hVn
  · exact absurd h4 (by decide)
end D3
