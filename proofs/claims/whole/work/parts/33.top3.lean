theorem Int32_m1_lt {x : Int32} (h1 : ¬ x < -1) (h2 : ¬ x = -1) : ¬ x < 0 := by
  rw [Int32.lt_iff_toInt_lt] at h1 ⊢
  have a : ((-1 : Int32)).toInt = -1 := by decide
  have z : ((0 : Int32)).toInt = 0 := by decide
  rw [a] at h1
  rw [z]
  intro h3
  exact h2 (Int32.toInt_inj.mp (by rw [a]; omega))
theorem ge_m1 {x : Int32} : -1 ≤ x ↔ ¬ x < -1 := Int32.not_lt.symm
theorem nI_ge_m1 (k : Nat) (h : k < 2 ^ 31) : ¬ nI k < -1 := by
  rw [Int32.lt_iff_toInt_lt, nI_toInt h]
  have a : ((-1 : Int32)).toInt = -1 := by decide
  omega
section C4
variable {R : List AE} {w : WD} {L : Nat} {b : Nat → Nat} {n m : Nat} {cd : Nat → Nat} {Q : Nat → Int64} {ik : Bool} {kn : Nat} {kc : Nat → Nat} {kQ : Nat → Int64} {fn : Nat} {fr : Nat → Int32} {fz : Int32} {tal : Nat → Int32}
theorem c_fall_b {x : Int32} (hC : CI L b n m cd Q ik kn kc kQ fn fr fz tal R w) (h : x < -1) : SemP mX8_fall 3 0 0 [.ref 0, .int x] w (Top (-1) (CI L b n m cd Q ik kn kc kQ fn fr fz tal R)) := by
  obtain ⟨tb, tc, tn, fc, ff, fs, ft, fu, fw, fy, fd, dc, dp, dq, ec, ep, eq, em, lr, wr, wf, wb, wn, gz, wc, ws, wa, pw, pf, pl, ta, rfl, ⟨s1, s2, s3, s4, s5, s6⟩, hB, hdc, hdp, hec, hep, hlr, hta, hwo⟩ := hC
  have hn : n ≤ 200 := Nat.le_trans s3 s4.1
  have hm : m ≤ 200 := s4.1
  have hkn : kn ≤ 200 := s5.1
  have hQn : dp n = Q n := hdp n s3
  have hVn : Vq (Q n) := s4.2.2.1 n s3
  refine semP_of (by decide) (Nat.le_of_ble_eq_true rfl) rfl ?_
  refine r_iload_n dX8_fall_0 rfl ?_
  refine r_iconst (v := (-1)) dX8_fall_1 (by decide) ?_
  refine r_icmp_ge 7 dX8_fall_2 (by decide) (fun h2 => ?_) (fun h2 => ?_)
  · exact absurd h (ge_m1.mp h2)
  · refine r_pc 5 rfl ?_
    refine r_iconst (v := (-1)) dX8_fall_5 (by decide) ?_
    exact r_iretP dX8_fall_6 rfl ⟨rfl, _, _, _, _, _, _, _, _, _, _, _, _, _, _, _, _, _, _, _, _, _, _, _, _, _, _, _, _, _, _, _, rfl, ⟨⟨s1, s2, s3, s4, s5, s6⟩, hB, hdc, hdp, hec, hep, hlr, hta, hwo⟩⟩
theorem c_fall_m (hC : CI L b n m cd Q ik kn kc kQ fn fr fz tal R w) : SemP mX8_fall 3 0 0 [.ref 0, .int (-1)] w (Top (fz) (CI L b n m cd Q ik kn kc kQ fn fr fz tal R)) := by
  obtain ⟨tb, tc, tn, fc, ff, fs, ft, fu, fw, fy, fd, dc, dp, dq, ec, ep, eq, em, lr, wr, wf, wb, wn, gz, wc, ws, wa, pw, pf, pl, ta, rfl, ⟨s1, s2, s3, s4, s5, s6⟩, hB, hdc, hdp, hec, hep, hlr, hta, hwo⟩ := hC
  have hn : n ≤ 200 := Nat.le_trans s3 s4.1
  have hm : m ≤ 200 := s4.1
  have hkn : kn ≤ 200 := s5.1
  have hQn : dp n = Q n := hdp n s3
  have hVn : Vq (Q n) := s4.2.2.1 n s3
  refine semP_of (by decide) (Nat.le_of_ble_eq_true rfl) rfl ?_
  refine r_iload_n dX8_fall_0 rfl ?_
  refine r_iconst (v := (-1)) dX8_fall_1 (by decide) ?_
  refine r_icmp_ge 7 dX8_fall_2 (by decide) (fun h2 => ?_) (fun h2 => ?_)
  · refine r_pc 7 rfl ?_
    refine r_iload_n dX8_fall_7 rfl ?_
    refine r_iconst (v := (-1)) dX8_fall_8 (by decide) ?_
    refine r_icmp_ne 20 dX8_fall_9 (by decide) (fun h9 => ?_) (fun h9 => ?_)
    · exact absurd rfl h9
    · refine r_pc 12 rfl ?_
      refine r_aload_n dX8_fall_12 rfl ?_
      refine r_get dX8_fall_13 fX8_40 rfl rfl ?_
      refine r_get dX8_fall_16 fX8_113 rfl rfl ?_
      exact r_iretP dX8_fall_19 rfl ⟨rfl, _, _, _, _, _, _, _, _, _, _, _, _, _, _, _, _, _, _, _, _, _, _, _, _, _, _, _, _, _, _, _, rfl, ⟨⟨s1, s2, s3, s4, s5, s6⟩, hB, hdc, hdp, hec, hep, hlr, hta, hwo⟩⟩
  · exact absurd (by decide) h2
theorem c_fall_0 (hC : CI L b n m cd Q ik kn kc kQ fn fr fz tal R w) : SemP mX8_fall 3 0 0 [.ref 0, .int (nI 0)] w (Top (nI fn) (CI L b n m cd Q ik kn kc kQ fn fr fz tal R)) := by
  obtain ⟨tb, tc, tn, fc, ff, fs, ft, fu, fw, fy, fd, dc, dp, dq, ec, ep, eq, em, lr, wr, wf, wb, wn, gz, wc, ws, wa, pw, pf, pl, ta, rfl, ⟨s1, s2, s3, s4, s5, s6⟩, hB, hdc, hdp, hec, hep, hlr, hta, hwo⟩ := hC
  have hn : n ≤ 200 := Nat.le_trans s3 s4.1
  have hm : m ≤ 200 := s4.1
  have hkn : kn ≤ 200 := s5.1
  have hQn : dp n = Q n := hdp n s3
  have hVn : Vq (Q n) := s4.2.2.1 n s3
  refine semP_of (by decide) (Nat.le_of_ble_eq_true rfl) rfl ?_
  refine r_iload_n dX8_fall_0 rfl ?_
  refine r_iconst (v := (-1)) dX8_fall_1 (by decide) ?_
  refine r_icmp_ge 7 dX8_fall_2 (by decide) (fun h2 => ?_) (fun h2 => ?_)
  · refine r_pc 7 rfl ?_
    refine r_iload_n dX8_fall_7 rfl ?_
    refine r_iconst (v := (-1)) dX8_fall_8 (by decide) ?_
    refine r_icmp_ne 20 dX8_fall_9 (by decide) (fun h9 => ?_) (fun h9 => ?_)
    · refine r_pc 20 rfl ?_
      refine r_iload_n dX8_fall_20 rfl ?_
      refine r_if_ne 32 dX8_fall_21 (by decide) (fun h21 => ?_) (fun h21 => ?_)
      · exact absurd rfl h21
      · refine r_pc 24 rfl ?_
        refine r_aload_n dX8_fall_24 rfl ?_
        refine r_get dX8_fall_25 fX8_40 rfl rfl ?_
        refine r_get dX8_fall_28 fX8_116 rfl rfl ?_
        exact r_iretP dX8_fall_31 rfl ⟨rfl, _, _, _, _, _, _, _, _, _, _, _, _, _, _, _, _, _, _, _, _, _, _, _, _, _, _, _, _, _, _, _, rfl, ⟨⟨s1, s2, s3, s4, s5, s6⟩, hB, hdc, hdp, hec, hep, hlr, hta, hwo⟩⟩
    · exact absurd h9 (by decide)
  · exact absurd (by decide) h2
theorem c_fall_1 {i : Nat} (hC : CI L b n m cd Q ik kn kc kQ fn fr fz tal R w) (h : i < fn) : SemP mX8_fall 3 0 0 [.ref 0, .int (nI (i + 1))] w (Top (fr i) (CI L b n m cd Q ik kn kc kQ fn fr fz tal R)) := by
  obtain ⟨tb, tc, tn, fc, ff, fs, ft, fu, fw, fy, fd, dc, dp, dq, ec, ep, eq, em, lr, wr, wf, wb, wn, gz, wc, ws, wa, pw, pf, pl, ta, rfl, ⟨s1, s2, s3, s4, s5, s6⟩, hB, hdc, hdp, hec, hep, hlr, hta, hwo⟩ := hC
  have hn : n ≤ 200 := Nat.le_trans s3 s4.1
  have hm : m ≤ 200 := s4.1
  have hkn : kn ≤ 200 := s5.1
  have hQn : dp n = Q n := hdp n s3
  have hVn : Vq (Q n) := s4.2.2.1 n s3
  refine semP_of (by decide) (Nat.le_of_ble_eq_true rfl) rfl ?_
  refine r_iload_n dX8_fall_0 rfl ?_
  refine r_iconst (v := (-1)) dX8_fall_1 (by decide) ?_
  refine r_icmp_ge 7 dX8_fall_2 (by decide) (fun h2 => ?_) (fun h2 => ?_)
  · refine r_pc 7 rfl ?_
    refine r_iload_n dX8_fall_7 rfl ?_
    refine r_iconst (v := (-1)) dX8_fall_8 (by decide) ?_
    refine r_icmp_ne 20 dX8_fall_9 (by decide) (fun h9 => ?_) (fun h9 => ?_)
    · refine r_pc 20 rfl ?_
      refine r_iload_n dX8_fall_20 rfl ?_
      refine r_if_ne 32 dX8_fall_21 (by decide) (fun h21 => ?_) (fun h21 => ?_)
      · refine r_pc 32 rfl ?_
        refine r_aload_n dX8_fall_32 rfl ?_
        refine r_get dX8_fall_33 fX8_40 rfl rfl ?_
        refine r_iload_n dX8_fall_36 rfl ?_
        refine r_iconst (v := (nI 1)) dX8_fall_37 (by decide) ?_
        refine r_isubN dX8_fall_38 (by omega) ?_
        refine r_pc 39 rfl ?_
        rw [Nat.add_sub_cancel]
        refine r_cV dX8_fall_39 (s_has s6 (by omega)) lX8_117 rfl rfl rfl (by decide) ⟨Nat.le_refl _, Nat.le_refl _⟩ (Nat.le_of_ble_eq_true rfl) ?_
        rw [decide_eq_true h]
        refine r_if_eq 59 dX8_fall_42 (by decide) (fun h42 => ?_) (fun h42 => ?_)
        · exact absurd h42 (by decide)
        · refine r_pc 45 rfl ?_
          refine r_aload_n dX8_fall_45 rfl ?_
          refine r_get dX8_fall_46 fX8_40 rfl rfl ?_
          refine r_get dX8_fall_49 fX8_120 rfl rfl ?_
          refine r_iload_n dX8_fall_52 rfl ?_
          refine r_iconst (v := (nI 1)) dX8_fall_53 (by decide) ?_
          refine r_pc 54 rfl ?_
          refine r_isubN dX8_fall_54 (by omega) ?_
          rw [Nat.add_sub_cancel]
          refine r_iald dX8_fall_55 rfl rfl (by omega) (by decide) ?_
          rw [hlr i h]
          refine r_goto 61 dX8_fall_56 (by decide) ?_
          exact r_iretP dX8_fall_61 rfl ⟨rfl, _, _, _, _, _, _, _, _, _, _, _, _, _, _, _, _, _, _, _, _, _, _, _, _, _, _, _, _, _, _, _, rfl, ⟨⟨s1, s2, s3, s4, s5, s6⟩, hB, hdc, hdp, hec, hep, hlr, hta, hwo⟩⟩
      · exact absurd (nI_z (by omega) h21) (by omega)
    · exact absurd h9 (nI_m1 (by omega))
  · exact absurd (ge_m1.mpr (nI_ge_m1 _ (by omega))) h2
theorem c_fall_2 {i : Nat} (hC : CI L b n m cd Q ik kn kc kQ fn fr fz tal R w) (h : fn ≤ i) (hi : i + 1 < 2 ^ 31) : SemP mX8_fall 3 0 0 [.ref 0, .int (nI (i + 1))] w (Top (-2) (CI L b n m cd Q ik kn kc kQ fn fr fz tal R)) := by
  obtain ⟨tb, tc, tn, fc, ff, fs, ft, fu, fw, fy, fd, dc, dp, dq, ec, ep, eq, em, lr, wr, wf, wb, wn, gz, wc, ws, wa, pw, pf, pl, ta, rfl, ⟨s1, s2, s3, s4, s5, s6⟩, hB, hdc, hdp, hec, hep, hlr, hta, hwo⟩ := hC
  have hn : n ≤ 200 := Nat.le_trans s3 s4.1
  have hm : m ≤ 200 := s4.1
  have hkn : kn ≤ 200 := s5.1
  have hQn : dp n = Q n := hdp n s3
  have hVn : Vq (Q n) := s4.2.2.1 n s3
  refine semP_of (by decide) (Nat.le_of_ble_eq_true rfl) rfl ?_
  refine r_iload_n dX8_fall_0 rfl ?_
  refine r_iconst (v := (-1)) dX8_fall_1 (by decide) ?_
  refine r_icmp_ge 7 dX8_fall_2 (by decide) (fun h2 => ?_) (fun h2 => ?_)
  · refine r_pc 7 rfl ?_
    refine r_iload_n dX8_fall_7 rfl ?_
    refine r_iconst (v := (-1)) dX8_fall_8 (by decide) ?_
    refine r_icmp_ne 20 dX8_fall_9 (by decide) (fun h9 => ?_) (fun h9 => ?_)
    · refine r_pc 20 rfl ?_
      refine r_iload_n dX8_fall_20 rfl ?_
      refine r_if_ne 32 dX8_fall_21 (by decide) (fun h21 => ?_) (fun h21 => ?_)
      · refine r_pc 32 rfl ?_
        refine r_aload_n dX8_fall_32 rfl ?_
        refine r_get dX8_fall_33 fX8_40 rfl rfl ?_
        refine r_iload_n dX8_fall_36 rfl ?_
        refine r_iconst (v := (nI 1)) dX8_fall_37 (by decide) ?_
        refine r_isubN dX8_fall_38 (by omega) ?_
        refine r_pc 39 rfl ?_
        rw [Nat.add_sub_cancel]
        refine r_cV dX8_fall_39 (s_has s6 (by omega)) lX8_117 rfl rfl rfl (by decide) ⟨Nat.le_refl _, Nat.le_refl _⟩ (Nat.le_of_ble_eq_true rfl) ?_
        rw [decide_eq_false (Nat.not_lt.mpr h)]
        refine r_if_eq 59 dX8_fall_42 (by decide) (fun h42 => ?_) (fun h42 => ?_)
        · refine r_pc 59 rfl ?_
          refine r_bipush (v := (-2)) dX8_fall_59 (by decide) ?_
          exact r_iretP dX8_fall_61 rfl ⟨rfl, _, _, _, _, _, _, _, _, _, _, _, _, _, _, _, _, _, _, _, _, _, _, _, _, _, _, _, _, _, _, _, rfl, ⟨⟨s1, s2, s3, s4, s5, s6⟩, hB, hdc, hdp, hec, hep, hlr, hta, hwo⟩⟩
        · exact absurd rfl h42
      · exact absurd (nI_z (by omega) h21) (by omega)
    · exact absurd h9 (nI_m1 (by omega))
  · exact absurd (ge_m1.mpr (nI_ge_m1 _ (by omega))) h2
theorem c_squares0 {x : Int32} (hC : CI L b n m cd Q ik kn kc kQ fn fr fz tal R w) (h : x < 0 ∨ nI 2 < x) : SemP mX8_squares 5 0 0 [.ref 0, .int x] w (Top (-1) (CI L b n m cd Q ik kn kc kQ fn fr fz tal R)) := by
  obtain ⟨tb, tc, tn, fc, ff, fs, ft, fu, fw, fy, fd, dc, dp, dq, ec, ep, eq, em, lr, wr, wf, wb, wn, gz, wc, ws, wa, pw, pf, pl, ta, rfl, ⟨s1, s2, s3, s4, s5, s6⟩, hB, hdc, hdp, hec, hep, hlr, hta, hwo⟩ := hC
  have hn : n ≤ 200 := Nat.le_trans s3 s4.1
  have hm : m ≤ 200 := s4.1
  have hkn : kn ≤ 200 := s5.1
  have hQn : dp n = Q n := hdp n s3
  have hVn : Vq (Q n) := s4.2.2.1 n s3
  refine semP_of (by decide) (Nat.le_of_ble_eq_true rfl) rfl ?_
  refine r_iload_n dX8_squares_0 rfl ?_
  refine r_if_lt 9 dX8_squares_1 (by decide) (fun h1 => ?_) (fun h1 => ?_)
  · refine r_pc 9 rfl ?_
    refine r_iconst (v := (-1)) dX8_squares_9 (by decide) ?_
    exact r_iretP dX8_squares_10 rfl ⟨rfl, _, _, _, _, _, _, _, _, _, _, _, _, _, _, _, _, _, _, _, _, _, _, _, _, _, _, _, _, _, _, _, rfl, ⟨⟨s1, s2, s3, s4, s5, s6⟩, hB, hdc, hdp, hec, hep, hlr, hta, hwo⟩⟩
  · refine r_pc 4 rfl ?_
    refine r_iload_n dX8_squares_4 rfl ?_
    refine r_iconst (v := (nI 2)) dX8_squares_5 (by decide) ?_
    refine r_icmp_le 11 dX8_squares_6 (by decide) (fun h6 => ?_) (fun h6 => ?_)
    · exact absurd h (fun z => by rcases z with z | z; (exact h1 z); (exact Int32.not_lt.mpr h6 z))
    · refine r_pc 9 rfl ?_
      refine r_iconst (v := (-1)) dX8_squares_9 (by decide) ?_
      exact r_iretP dX8_squares_10 rfl ⟨rfl, _, _, _, _, _, _, _, _, _, _, _, _, _, _, _, _, _, _, _, _, _, _, _, _, _, _, _, _, _, _, _, rfl, ⟨⟨s1, s2, s3, s4, s5, s6⟩, hB, hdc, hdp, hec, hep, hlr, hta, hwo⟩⟩
theorem ulS_ext {dp dp' dq dq' : Nat → Int64} {s : Nat} : ∀ i, (∀ j, j < i → dp j = dp' j) → (ulS dp dq s i).2 = (ulS dp' dq' s i).2 ∧ ∀ j, j < (ulS dp dq s i).2 → (ulS dp dq s i).1 j = (ulS dp' dq' s i).1 j
  | 0, _ => ⟨rfl, fun j h => absurd h (Nat.not_lt_zero _)⟩
  | i + 1, h => by
    obtain ⟨e1, e2⟩ := ulS_ext (dq := dq) (dq' := dq') (s := s) i (fun j hj => h j (by omega))
    have am : ∀ q n, (∀ j, j < n → (ulS dp dq s i).1 j = (ulS dp' dq' s i).1 j) → amg q (ulS dp dq s i).1 n = amg q (ulS dp' dq' s i).1 n := by
      intro q n
      induction n with
      | zero => intro _; rfl
      | succ n ih => intro hh; show (amg q _ n || _) = (amg q _ n || _); rw [ih (fun j hj => hh j (by omega)), hh n (by omega)]
    have hk : amg (key s (dp i)) (ulS dp dq s i).1 (ulS dp dq s i).2 = amg (key s (dp' i)) (ulS dp' dq' s i).1 (ulS dp' dq' s i).2 := by rw [am _ _ e2, e1, h i (by omega)]
    unfold ulS
    rw [hk]
    cases amg (key s (dp' i)) (ulS dp' dq' s i).1 (ulS dp' dq' s i).2 with
    | true => exact ⟨e1, e2⟩
    | false =>
      refine ⟨by show _ + 1 = _ + 1; rw [e1], fun j hj => ?_⟩
      show vp_updL _ _ _ j = vp_updL _ _ _ j
      rw [e1, h i (by omega)]
      by_cases e : j = (ulS dp' dq' s i).2
      · rw [e, pk_uLs, pk_uLs]
      · rw [pk_uLn e, pk_uLn e]
        exact e2 j (by have hj : j < (ulS dp dq s i).2 + 1 := hj; omega)
theorem c_squares1 {s : Nat} (hC : CI L b n m cd Q ik kn kc kQ fn fr fz tal R w) (h : s < 3) : SemP mX8_squares 5 0 0 [.ref 0, .int (nI s)] w (Top (nI (ulS Q (fun _ => 0) s (n + 1)).2) (CI L b n m cd Q ik kn kc kQ fn fr fz tal R)) := by
  obtain ⟨tb, tc, tn, fc, ff, fs, ft, fu, fw, fy, fd, dc, dp, dq, ec, ep, eq, em, lr, wr, wf, wb, wn, gz, wc, ws, wa, pw, pf, pl, ta, rfl, ⟨s1, s2, s3, s4, s5, s6⟩, hB, hdc, hdp, hec, hep, hlr, hta, hwo⟩ := hC
  have hn : n ≤ 200 := Nat.le_trans s3 s4.1
  have hm : m ≤ 200 := s4.1
  have hkn : kn ≤ 200 := s5.1
  have hQn : dp n = Q n := hdp n s3
  have hVn : Vq (Q n) := s4.2.2.1 n s3
  refine semP_of (by decide) (Nat.le_of_ble_eq_true rfl) rfl ?_
  have e := (ulS_ext (dp := dp) (dp' := Q) (dq := dq) (dq' := fun _ => 0) (s := s) (n + 1) (fun j hj => hdp j (by omega))).1
  refine r_iload_n dX8_squares_0 rfl ?_
  refine r_if_lt 9 dX8_squares_1 (by decide) (fun h1 => ?_) (fun h1 => ?_)
  · exact absurd h1 (nI_pos (by omega))
  · refine r_pc 4 rfl ?_
    refine r_iload_n dX8_squares_4 rfl ?_
    refine r_iconst (v := (nI 2)) dX8_squares_5 (by decide) ?_
    refine r_icmp_leN 11 dX8_squares_6 (by decide) (by omega) (by omega) (fun h6 => ?_) (fun h6 => ?_)
    · refine r_pc 11 rfl ?_
      refine r_aload_n dX8_squares_11 rfl ?_
      refine r_get dX8_squares_12 fX8_26 rfl rfl ?_
      refine r_iload_n dX8_squares_15 rfl ?_
      refine r_cV dX8_squares_16 (s_unlike hn h) lX8_184 rfl rfl rfl (by decide) ⟨Nat.le_refl _, Nat.le_refl _⟩ (Nat.le_of_ble_eq_true rfl) ?_
      rw [e]
      exact r_iretP dX8_squares_19 rfl ⟨rfl, _, _, _, _, _, _, _, _, _, _, _, _, _, _, _, _, _, _, _, _, _, _, _, _, _, _, _, _, _, _, _, rfl, ⟨⟨s1, s2, s3, s4, s5, s6⟩, hB, hdc, hdp, hec, hep, hlr, hta, hwo⟩⟩
    · exact absurd h6 (by omega)
theorem c_call_b {x : Int32} (hC : CI L b n m cd Q ik kn kc kQ fn fr fz tal R w) (h : x < -1) : SemP mX8_call 3 0 0 [.ref 0, .int x] w (Top (-1) (CI L b n m cd Q ik kn kc kQ fn fr fz tal R)) := by
  obtain ⟨tb, tc, tn, fc, ff, fs, ft, fu, fw, fy, fd, dc, dp, dq, ec, ep, eq, em, lr, wr, wf, wb, wn, gz, wc, ws, wa, pw, pf, pl, ta, rfl, ⟨s1, s2, s3, s4, s5, s6⟩, hB, hdc, hdp, hec, hep, hlr, hta, hwo⟩ := hC
  have hn : n ≤ 200 := Nat.le_trans s3 s4.1
  have hm : m ≤ 200 := s4.1
  have hkn : kn ≤ 200 := s5.1
  have hQn : dp n = Q n := hdp n s3
  have hVn : Vq (Q n) := s4.2.2.1 n s3
  refine semP_of (by decide) (Nat.le_of_ble_eq_true rfl) rfl ?_
  refine r_iload_n dX8_call_0 rfl ?_
  refine r_iconst (v := (-1)) dX8_call_1 (by decide) ?_
  refine r_icmp_ge 7 dX8_call_2 (by decide) (fun h2 => ?_) (fun h2 => ?_)
  · exact absurd h (ge_m1.mp h2)
  · refine r_pc 5 rfl ?_
    refine r_iconst (v := (-1)) dX8_call_5 (by decide) ?_
    exact r_iretP dX8_call_6 rfl ⟨rfl, _, _, _, _, _, _, _, _, _, _, _, _, _, _, _, _, _, _, _, _, _, _, _, _, _, _, _, _, _, _, _, rfl, ⟨⟨s1, s2, s3, s4, s5, s6⟩, hB, hdc, hdp, hec, hep, hlr, hta, hwo⟩⟩
theorem c_call_m (hC : CI L b n m cd Q ik kn kc kQ fn fr fz tal R w) : SemP mX8_call 3 0 0 [.ref 0, .int (-1)] w (Top (nI n) (CI L b n m cd Q ik kn kc kQ fn fr fz tal R)) := by
  obtain ⟨tb, tc, tn, fc, ff, fs, ft, fu, fw, fy, fd, dc, dp, dq, ec, ep, eq, em, lr, wr, wf, wb, wn, gz, wc, ws, wa, pw, pf, pl, ta, rfl, ⟨s1, s2, s3, s4, s5, s6⟩, hB, hdc, hdp, hec, hep, hlr, hta, hwo⟩ := hC
  have hn : n ≤ 200 := Nat.le_trans s3 s4.1
  have hm : m ≤ 200 := s4.1
  have hkn : kn ≤ 200 := s5.1
  have hQn : dp n = Q n := hdp n s3
  have hVn : Vq (Q n) := s4.2.2.1 n s3
  refine semP_of (by decide) (Nat.le_of_ble_eq_true rfl) rfl ?_
  refine r_iload_n dX8_call_0 rfl ?_
  refine r_iconst (v := (-1)) dX8_call_1 (by decide) ?_
  refine r_icmp_ge 7 dX8_call_2 (by decide) (fun h2 => ?_) (fun h2 => ?_)
  · refine r_pc 7 rfl ?_
    refine r_iload_n dX8_call_7 rfl ?_
    refine r_iconst (v := (-1)) dX8_call_8 (by decide) ?_
    refine r_icmp_ne 20 dX8_call_9 (by decide) (fun h9 => ?_) (fun h9 => ?_)
    · exact absurd rfl h9
    · refine r_pc 12 rfl ?_
      refine r_aload_n dX8_call_12 rfl ?_
      refine r_get dX8_call_13 fX8_26 rfl rfl ?_
      refine r_get dX8_call_16 fX8_74 rfl rfl ?_
      exact r_iretP dX8_call_19 rfl ⟨rfl, _, _, _, _, _, _, _, _, _, _, _, _, _, _, _, _, _, _, _, _, _, _, _, _, _, _, _, _, _, _, _, rfl, ⟨⟨s1, s2, s3, s4, s5, s6⟩, hB, hdc, hdp, hec, hep, hlr, hta, hwo⟩⟩
  · exact absurd (by decide) h2
theorem c_call_1 {i : Nat} (hC : CI L b n m cd Q ik kn kc kQ fn fr fz tal R w) (h : i < n) : SemP mX8_call 3 0 0 [.ref 0, .int (nI i)] w (Top (nI (cd i)) (CI L b n m cd Q ik kn kc kQ fn fr fz tal R)) := by
  obtain ⟨tb, tc, tn, fc, ff, fs, ft, fu, fw, fy, fd, dc, dp, dq, ec, ep, eq, em, lr, wr, wf, wb, wn, gz, wc, ws, wa, pw, pf, pl, ta, rfl, ⟨s1, s2, s3, s4, s5, s6⟩, hB, hdc, hdp, hec, hep, hlr, hta, hwo⟩ := hC
  have hn : n ≤ 200 := Nat.le_trans s3 s4.1
  have hm : m ≤ 200 := s4.1
  have hkn : kn ≤ 200 := s5.1
  have hQn : dp n = Q n := hdp n s3
  have hVn : Vq (Q n) := s4.2.2.1 n s3
  refine semP_of (by decide) (Nat.le_of_ble_eq_true rfl) rfl ?_
  refine r_iload_n dX8_call_0 rfl ?_
  refine r_iconst (v := (-1)) dX8_call_1 (by decide) ?_
  refine r_icmp_ge 7 dX8_call_2 (by decide) (fun h2 => ?_) (fun h2 => ?_)
  · refine r_pc 7 rfl ?_
    refine r_iload_n dX8_call_7 rfl ?_
    refine r_iconst (v := (-1)) dX8_call_8 (by decide) ?_
    refine r_icmp_ne 20 dX8_call_9 (by decide) (fun h9 => ?_) (fun h9 => ?_)
    · refine r_pc 20 rfl ?_
      refine r_iload_n dX8_call_20 rfl ?_
      refine r_aload_n dX8_call_21 rfl ?_
      refine r_get dX8_call_22 fX8_26 rfl rfl ?_
      refine r_get dX8_call_25 fX8_74 rfl rfl ?_
      refine r_icmp_geN 42 dX8_call_28 (by decide) (by omega) (by omega) (fun h28 => ?_) (fun h28 => ?_)
      · exact absurd h28 (by omega)
      · refine r_pc 31 rfl ?_
        refine r_aload_n dX8_call_31 rfl ?_
        refine r_get dX8_call_32 fX8_26 rfl rfl ?_
        refine r_iload_n dX8_call_35 rfl ?_
        refine r_cV dX8_call_36 (s_codeAtD hn h) lX8_133 rfl rfl rfl (by decide) ⟨Nat.le_refl _, Nat.le_refl _⟩ (Nat.le_of_ble_eq_true rfl) ?_
        rw [hdc i (by omega)]
        refine r_goto 44 dX8_call_39 (by decide) ?_
        exact r_iretP dX8_call_44 rfl ⟨rfl, _, _, _, _, _, _, _, _, _, _, _, _, _, _, _, _, _, _, _, _, _, _, _, _, _, _, _, _, _, _, _, rfl, ⟨⟨s1, s2, s3, s4, s5, s6⟩, hB, hdc, hdp, hec, hep, hlr, hta, hwo⟩⟩
    · exact absurd h9 (nI_m1 (by omega))
  · exact absurd (ge_m1.mpr (nI_ge_m1 _ (by omega))) h2
theorem c_call_2 {i : Nat} (hC : CI L b n m cd Q ik kn kc kQ fn fr fz tal R w) (h : n ≤ i) (hi : i < 2 ^ 31) : SemP mX8_call 3 0 0 [.ref 0, .int (nI i)] w (Top (-2) (CI L b n m cd Q ik kn kc kQ fn fr fz tal R)) := by
  obtain ⟨tb, tc, tn, fc, ff, fs, ft, fu, fw, fy, fd, dc, dp, dq, ec, ep, eq, em, lr, wr, wf, wb, wn, gz, wc, ws, wa, pw, pf, pl, ta, rfl, ⟨s1, s2, s3, s4, s5, s6⟩, hB, hdc, hdp, hec, hep, hlr, hta, hwo⟩ := hC
  have hn : n ≤ 200 := Nat.le_trans s3 s4.1
  have hm : m ≤ 200 := s4.1
  have hkn : kn ≤ 200 := s5.1
  have hQn : dp n = Q n := hdp n s3
  have hVn : Vq (Q n) := s4.2.2.1 n s3
  refine semP_of (by decide) (Nat.le_of_ble_eq_true rfl) rfl ?_
  refine r_iload_n dX8_call_0 rfl ?_
  refine r_iconst (v := (-1)) dX8_call_1 (by decide) ?_
  refine r_icmp_ge 7 dX8_call_2 (by decide) (fun h2 => ?_) (fun h2 => ?_)
  · refine r_pc 7 rfl ?_
    refine r_iload_n dX8_call_7 rfl ?_
    refine r_iconst (v := (-1)) dX8_call_8 (by decide) ?_
    refine r_icmp_ne 20 dX8_call_9 (by decide) (fun h9 => ?_) (fun h9 => ?_)
    · refine r_pc 20 rfl ?_
      refine r_iload_n dX8_call_20 rfl ?_
      refine r_aload_n dX8_call_21 rfl ?_
      refine r_get dX8_call_22 fX8_26 rfl rfl ?_
      refine r_get dX8_call_25 fX8_74 rfl rfl ?_
      refine r_icmp_geN 42 dX8_call_28 (by decide) (by omega) (by omega) (fun h28 => ?_) (fun h28 => ?_)
      · refine r_pc 42 rfl ?_
        refine r_bipush (v := (-2)) dX8_call_42 (by decide) ?_
        exact r_iretP dX8_call_44 rfl ⟨rfl, _, _, _, _, _, _, _, _, _, _, _, _, _, _, _, _, _, _, _, _, _, _, _, _, _, _, _, _, _, _, _, rfl, ⟨⟨s1, s2, s3, s4, s5, s6⟩, hB, hdc, hdp, hec, hep, hlr, hta, hwo⟩⟩
      · exact absurd h28 (by omega)
    · exact absurd h9 (nI_m1 (by omega))
  · exact absurd (ge_m1.mpr (nI_ge_m1 _ (by omega))) h2
theorem c_danced0 {x : Int32} (hC : CI L b n m cd Q ik kn kc kQ fn fr fz tal R w) (h : x < 0 ∨ nI 12 ≤ x) : SemP mX8_danced 3 0 0 [.ref 0, .int x] w (Top (-1) (CI L b n m cd Q ik kn kc kQ fn fr fz tal R)) := by
  obtain ⟨tb, tc, tn, fc, ff, fs, ft, fu, fw, fy, fd, dc, dp, dq, ec, ep, eq, em, lr, wr, wf, wb, wn, gz, wc, ws, wa, pw, pf, pl, ta, rfl, ⟨s1, s2, s3, s4, s5, s6⟩, hB, hdc, hdp, hec, hep, hlr, hta, hwo⟩ := hC
  have hn : n ≤ 200 := Nat.le_trans s3 s4.1
  have hm : m ≤ 200 := s4.1
  have hkn : kn ≤ 200 := s5.1
  have hQn : dp n = Q n := hdp n s3
  have hVn : Vq (Q n) := s4.2.2.1 n s3
  refine semP_of (by decide) (Nat.le_of_ble_eq_true rfl) rfl ?_
  refine r_iload_n dX8_danced_0 rfl ?_
  refine r_if_lt 10 dX8_danced_1 (by decide) (fun h1 => ?_) (fun h1 => ?_)
  · refine r_pc 10 rfl ?_
    refine r_iconst (v := (-1)) dX8_danced_10 (by decide) ?_
    refine r_goto 20 dX8_danced_11 (by decide) ?_
    exact r_iretP dX8_danced_20 rfl ⟨rfl, _, _, _, _, _, _, _, _, _, _, _, _, _, _, _, _, _, _, _, _, _, _, _, _, _, _, _, _, _, _, _, rfl, ⟨⟨s1, s2, s3, s4, s5, s6⟩, hB, hdc, hdp, hec, hep, hlr, hta, hwo⟩⟩
  · refine r_pc 4 rfl ?_
    refine r_iload_n dX8_danced_4 rfl ?_
    refine r_bipush (v := (nI 12)) dX8_danced_5 (by decide) ?_
    refine r_icmp_lt 14 dX8_danced_7 (by decide) (fun h7 => ?_) (fun h7 => ?_)
    · exact absurd h (fun z => by rcases z with z | z; (exact h1 z); (exact Int32.not_le.mpr h7 z))
    · refine r_pc 10 rfl ?_
      refine r_iconst (v := (-1)) dX8_danced_10 (by decide) ?_
      refine r_goto 20 dX8_danced_11 (by decide) ?_
      exact r_iretP dX8_danced_20 rfl ⟨rfl, _, _, _, _, _, _, _, _, _, _, _, _, _, _, _, _, _, _, _, _, _, _, _, _, _, _, _, _, _, _, _, rfl, ⟨⟨s1, s2, s3, s4, s5, s6⟩, hB, hdc, hdp, hec, hep, hlr, hta, hwo⟩⟩
theorem c_danced1 {i : Nat} (hC : CI L b n m cd Q ik kn kc kQ fn fr fz tal R w) (h : i < 12) : SemP mX8_danced 3 0 0 [.ref 0, .int (nI i)] w (Top (tal i) (CI L b n m cd Q ik kn kc kQ fn fr fz tal R)) := by
  obtain ⟨tb, tc, tn, fc, ff, fs, ft, fu, fw, fy, fd, dc, dp, dq, ec, ep, eq, em, lr, wr, wf, wb, wn, gz, wc, ws, wa, pw, pf, pl, ta, rfl, ⟨s1, s2, s3, s4, s5, s6⟩, hB, hdc, hdp, hec, hep, hlr, hta, hwo⟩ := hC
  have hn : n ≤ 200 := Nat.le_trans s3 s4.1
  have hm : m ≤ 200 := s4.1
  have hkn : kn ≤ 200 := s5.1
  have hQn : dp n = Q n := hdp n s3
  have hVn : Vq (Q n) := s4.2.2.1 n s3
  refine semP_of (by decide) (Nat.le_of_ble_eq_true rfl) rfl ?_
  refine r_iload_n dX8_danced_0 rfl ?_
  refine r_if_lt 10 dX8_danced_1 (by decide) (fun h1 => ?_) (fun h1 => ?_)
  · exact absurd h1 (nI_pos (by omega))
  · refine r_pc 4 rfl ?_
    refine r_iload_n dX8_danced_4 rfl ?_
    refine r_bipush (v := (nI 12)) dX8_danced_5 (by decide) ?_
    refine r_icmp_ltN 14 dX8_danced_7 (by decide) (by omega) (by omega) (fun h7 => ?_) (fun h7 => ?_)
    · refine r_pc 14 rfl ?_
      refine r_aload_n dX8_danced_14 rfl ?_
      refine r_get dX8_danced_15 fX8_58 rfl rfl ?_
      refine r_iload_n dX8_danced_18 rfl ?_
      refine r_iald dX8_danced_19 rfl rfl h (by decide) ?_
      rw [hta i h]
      exact r_iretP dX8_danced_20 rfl ⟨rfl, _, _, _, _, _, _, _, _, _, _, _, _, _, _, _, _, _, _, _, _, _, _, _, _, _, _, _, _, _, _, _, rfl, ⟨⟨s1, s2, s3, s4, s5, s6⟩, hB, hdc, hdp, hec, hep, hlr, hta, hwo⟩⟩
    · exact absurd h7 (by omega)
theorem c_image (hC : CI L b n m cd Q ik kn kc kQ fn fr fz tal R w) : SemP mX8_image 3 0 0 [.ref 0] w (Top (nI n) (CI L b n m cd Q (true) (n) (cd) (Q) fn fr fz tal R)) := by
  obtain ⟨tb, tc, tn, fc, ff, fs, ft, fu, fw, fy, fd, dc, dp, dq, ec, ep, eq, em, lr, wr, wf, wb, wn, gz, wc, ws, wa, pw, pf, pl, ta, rfl, ⟨s1, s2, s3, s4, s5, s6⟩, hB, hdc, hdp, hec, hep, hlr, hta, hwo⟩ := hC
  have hn : n ≤ 200 := Nat.le_trans s3 s4.1
  have hm : m ≤ 200 := s4.1
  have hkn : kn ≤ 200 := s5.1
  have hQn : dp n = Q n := hdp n s3
  have hVn : Vq (Q n) := s4.2.2.1 n s3
  refine semP_of (by decide) (Nat.le_of_ble_eq_true rfl) rfl ?_
  refine r_aload_n dX8_image_0 rfl ?_
  refine r_get dX8_image_1 fX8_30 rfl rfl ?_
  refine r_aload_n dX8_image_4 rfl ?_
  refine r_get dX8_image_5 fX8_26 rfl rfl ?_
  refine r_cVv dX8_image_8 (s_copyK hn) lX8_199 rfl rfl rfl (by decide) ⟨Nat.le_refl _, Nat.le_refl _⟩ (Nat.le_of_ble_eq_true rfl) ?_
  refine r_pc 11 rfl ?_
  refine r_aload_n dX8_image_11 rfl ?_
  refine r_iconst (v := (nI 1)) dX8_image_12 (by decide) ?_
  refine r_put (w2 := (cW _ _ _ _ _ _ _ _ _ _ _ _ _ _ _ _ _ _ _ _ _ _ _ _ _ _ _ _ _ _ _ _ _ _ _ _ _ _ _, _)) dX8_image_13 fX8_33 rfl rfl (Nat.le_of_ble_eq_true rfl) (fun _ => rfl) (fun _ => rfl) rfl ?_
  refine r_aload_n dX8_image_16 rfl ?_
  refine r_get dX8_image_17 fX8_26 rfl rfl ?_
  refine r_pc 20 rfl ?_
  refine r_get dX8_image_20 fX8_74 rfl rfl ?_
  exact r_iretP dX8_image_23 rfl ⟨rfl, _, _, _, _, _, _, _, _, _, _, _, _, _, _, _, _, _, _, _, _, _, _, _, _, _, _, _, _, _, _, _, rfl, ⟨⟨s1, s2, s3, s4, ⟨hn, fun j h => s4.2.1 j (by omega), fun j h => s4.2.2.1 j (by omega), s4.2.2.2⟩, s6⟩, hB, hdc, hdp, (fun j h => by rw [cpy_ext _ _ h]; exact hdc j (by omega)), (fun j h => by rw [cpy_ext _ _ (by omega)]; exact hdp j (by omega)), hlr, hta, hwo⟩⟩
theorem c_back0 (hC : CI L b n m cd Q (false) kn kc kQ fn fr fz tal R w) : SemP mX8_back 3 0 0 [.ref 0] w (Top (-5) (CI L b n m cd Q (false) kn kc kQ fn fr fz tal R)) := by
  obtain ⟨tb, tc, tn, fc, ff, fs, ft, fu, fw, fy, fd, dc, dp, dq, ec, ep, eq, em, lr, wr, wf, wb, wn, gz, wc, ws, wa, pw, pf, pl, ta, rfl, ⟨s1, s2, s3, s4, s5, s6⟩, hB, hdc, hdp, hec, hep, hlr, hta, hwo⟩ := hC
  have hn : n ≤ 200 := Nat.le_trans s3 s4.1
  have hm : m ≤ 200 := s4.1
  have hkn : kn ≤ 200 := s5.1
  have hQn : dp n = Q n := hdp n s3
  have hVn : Vq (Q n) := s4.2.2.1 n s3
  refine semP_of (by decide) (Nat.le_of_ble_eq_true rfl) rfl ?_
  refine r_aload_n dX8_back_0 rfl ?_
  refine r_get dX8_back_1 fX8_33 rfl rfl ?_
  refine r_if_ne 10 dX8_back_4 (by decide) (fun h4 => ?_) (fun h4 => ?_)
  · exact absurd rfl h4
  · refine r_pc 7 rfl ?_
    refine r_bipush (v := (-5)) dX8_back_7 (by decide) ?_
    exact r_iretP dX8_back_9 rfl ⟨rfl, _, _, _, _, _, _, _, _, _, _, _, _, _, _, _, _, _, _, _, _, _, _, _, _, _, _, _, _, _, _, _, rfl, ⟨⟨s1, s2, s3, s4, s5, s6⟩, hB, hdc, hdp, hec, hep, hlr, hta, hwo⟩⟩
theorem c_back1 (hC : CI L b n m cd Q (true) kn kc kQ fn fr fz tal R w) : SemP mX8_back 3 0 0 [.ref 0] w (Top (nI kn) (CI L b (kn) (kn) (kc) (kQ) (true) kn kc kQ fn fr fz tal R)) := by
  obtain ⟨tb, tc, tn, fc, ff, fs, ft, fu, fw, fy, fd, dc, dp, dq, ec, ep, eq, em, lr, wr, wf, wb, wn, gz, wc, ws, wa, pw, pf, pl, ta, rfl, ⟨s1, s2, s3, s4, s5, s6⟩, hB, hdc, hdp, hec, hep, hlr, hta, hwo⟩ := hC
  have hn : n ≤ 200 := Nat.le_trans s3 s4.1
  have hm : m ≤ 200 := s4.1
  have hkn : kn ≤ 200 := s5.1
  have hQn : dp n = Q n := hdp n s3
  have hVn : Vq (Q n) := s4.2.2.1 n s3
  refine semP_of (by decide) (Nat.le_of_ble_eq_true rfl) rfl ?_
  refine r_aload_n dX8_back_0 rfl ?_
  refine r_get dX8_back_1 fX8_33 rfl rfl ?_
  refine r_if_ne 10 dX8_back_4 (by decide) (fun h4 => ?_) (fun h4 => ?_)
  · refine r_pc 10 rfl ?_
    refine r_aload_n dX8_back_10 rfl ?_
    refine r_get dX8_back_11 fX8_26 rfl rfl ?_
    refine r_aload_n dX8_back_14 rfl ?_
    refine r_get dX8_back_15 fX8_30 rfl rfl ?_
    refine r_cVv dX8_back_18 (s_copyB hkn) lX8_199 rfl rfl rfl (by decide) ⟨Nat.le_refl _, Nat.le_refl _⟩ (Nat.le_of_ble_eq_true rfl) ?_
    refine r_pc 21 rfl ?_
    refine r_aload_n dX8_back_21 rfl ?_
    refine r_get dX8_back_22 fX8_26 rfl rfl ?_
    refine r_get dX8_back_25 fX8_74 rfl rfl ?_
    exact r_iretP dX8_back_28 rfl ⟨rfl, _, _, _, _, _, _, _, _, _, _, _, _, _, _, _, _, _, _, _, _, _, _, _, _, _, _, _, _, _, _, _, rfl, ⟨⟨s1, s2, Nat.le_refl _, s5, s5, s6⟩, hB, (fun j h => by rw [cpy_ext _ _ h]; exact hec j h), (fun j h => by rw [cpy_ext _ _ (by omega)]; exact hep j h), hec, hep, hlr, hta, hwo⟩⟩
  · exact absurd h4 (by decide)
end C4
