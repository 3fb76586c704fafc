section C3
variable {R : List AE} {w : WD} {L : Nat} {b : Nat → Nat} {n m : Nat} {cd : Nat → Nat} {Q : Nat → Int64} {ik : Bool} {kn : Nat} {kc : Nat → Nat} {kQ : Nat → Int64} {fn : Nat} {fr : Nat → Int32} {fz : Int32} {tal : Nat → Int32}
theorem c_redo0 (hC : CI L b n m cd Q ik kn kc kQ fn fr fz tal R w) (h : m ≤ n) : SemP mX8_redo 3 0 0 [.ref 0] w (Top (-5) (CI L b n m cd Q ik kn kc kQ fn fr fz tal R)) := by
  obtain ⟨tb, tc, tn, fc, ff, fs, ft, fu, fw, fy, fd, dc, dp, dq, ec, ep, eq, em, lr, wr, wf, wb, wn, gz, wc, ws, wa, pw, pf, pl, ta, rfl, ⟨s1, s2, s3, s4, s5, s6⟩, hB, hdc, hdp, hec, hep, hlr, hta, hwo⟩ := hC
  have hn : n ≤ 200 := Nat.le_trans s3 s4.1
  have hm : m ≤ 200 := s4.1
  have hkn : kn ≤ 200 := s5.1
  have hL : L ≤ 120 := s1
  have s3 : n ≤ m := s3
  have s6 : fn ≤ 8 := s6
  have hdc : ∀ j, j < m → dc j = nI (cd j) := hdc
  have hdp : ∀ j, j ≤ m → dp j = Q j := hdp
  have hep : ∀ j, j ≤ kn → ep j = kQ j := hep
  have hlr : ∀ j, j < fn → lr j = fr j := hlr
  have hta : ∀ j, j < 12 → ta j = tal j := hta
  have hQn : dp n = Q n := hdp n s3
  have hVn : Vq (Q n) := s4.2.2.1 n s3
  refine semP_of (by decide) (Nat.le_of_ble_eq_true rfl) rfl ?_
  refine r_aload_n dX8_redo_0 rfl ?_
  refine r_get dX8_redo_1 fX8_26 rfl rfl ?_
  refine r_cV dX8_redo_4 (s_stepAgain0 hn h) lX8_130 rfl rfl rfl (by decide) ⟨Nat.le_refl _, Nat.le_refl _⟩ (Nat.le_of_ble_eq_true rfl) ?_
  refine r_if_ne 13 dX8_redo_7 (by decide) (fun h7 => ?_) (fun h7 => ?_)
  · exact absurd rfl h7
  · refine r_pc 10 rfl ?_
    refine r_bipush (v := (-5)) dX8_redo_10 (by decide) ?_
    exact r_iretP dX8_redo_12 rfl ⟨rfl, _, _, _, _, _, _, _, _, _, _, _, _, _, _, _, _, _, _, _, _, _, _, _, _, _, _, _, _, _, _, _, rfl, ⟨⟨s1, s2, s3, s4, s5, s6⟩, hB, hdc, hdp, hec, hep, hlr, hta, hwo⟩⟩
theorem c_redo1 (hC : CI L b n m cd Q ik kn kc kQ fn fr fz tal R w) (h : n < m) : SemP mX8_redo 3 0 0 [.ref 0] w (Top (nI (n + 1)) (CI L b (n + 1) m cd Q ik kn kc kQ fn fr fz (upd tal (cd n % 100) (tal (cd n % 100) + nI 1)) R)) := by
  obtain ⟨tb, tc, tn, fc, ff, fs, ft, fu, fw, fy, fd, dc, dp, dq, ec, ep, eq, em, lr, wr, wf, wb, wn, gz, wc, ws, wa, pw, pf, pl, ta, rfl, ⟨s1, s2, s3, s4, s5, s6⟩, hB, hdc, hdp, hec, hep, hlr, hta, hwo⟩ := hC
  have hn : n ≤ 200 := Nat.le_trans s3 s4.1
  have hm : m ≤ 200 := s4.1
  have hkn : kn ≤ 200 := s5.1
  have hL : L ≤ 120 := s1
  have s3 : n ≤ m := s3
  have s6 : fn ≤ 8 := s6
  have hdc : ∀ j, j < m → dc j = nI (cd j) := hdc
  have hdp : ∀ j, j ≤ m → dp j = Q j := hdp
  have hep : ∀ j, j ≤ kn → ep j = kQ j := hep
  have hlr : ∀ j, j < fn → lr j = fr j := hlr
  have hta : ∀ j, j < 12 → ta j = tal j := hta
  have hQn : dp n = Q n := hdp n s3
  have hVn : Vq (Q n) := s4.2.2.1 n s3
  refine semP_of (by decide) (Nat.le_of_ble_eq_true rfl) rfl ?_
  refine r_aload_n dX8_redo_0 rfl ?_
  refine r_get dX8_redo_1 fX8_26 rfl rfl ?_
  refine r_cV dX8_redo_4 (s_stepAgain1 hm h) lX8_130 rfl rfl rfl (by decide) ⟨Nat.le_refl _, Nat.le_refl _⟩ (Nat.le_of_ble_eq_true rfl) ?_
  refine r_if_ne 13 dX8_redo_7 (by decide) (fun h7 => ?_) (fun h7 => ?_)
  · refine r_pc 13 rfl ?_
    refine r_aload_n dX8_redo_13 rfl ?_
    refine r_aload_n dX8_redo_14 rfl ?_
    refine r_get dX8_redo_15 fX8_26 rfl rfl ?_
    refine r_aload_n dX8_redo_18 rfl ?_
    refine r_get dX8_redo_19 fX8_26 rfl rfl ?_
    refine r_pc 22 rfl ?_
    refine r_get dX8_redo_22 fX8_74 rfl rfl ?_
    refine r_iconst (v := (nI 1)) dX8_redo_25 (by decide) ?_
    refine r_isubN dX8_redo_26 (by omega) ?_
    rw [Nat.add_sub_cancel]
    refine r_cV dX8_redo_27 (s_codeAtD (by omega) (Nat.lt_succ_self n)) lX8_133 rfl rfl rfl (by decide) ⟨Nat.le_refl _, Nat.le_refl _⟩ (Nat.le_of_ble_eq_true rfl) ?_
    refine r_topi (nI (100 * (cd n / 100) + cd n % 100)) (by rw [hdc n h]; congr 1; omega) ?_
    refine r_cVv dX8_redo_30 (s_tally (s4.2.1 n h).1 (s4.2.1 n h).2) lX8_109 rfl rfl rfl (by decide) ⟨Nat.le_refl _, Nat.le_refl _⟩ (Nat.le_of_ble_eq_true rfl) ?_
    refine r_pc 33 rfl ?_
    refine r_aload_n dX8_redo_33 rfl ?_
    refine r_get dX8_redo_34 fX8_26 rfl rfl ?_
    refine r_get dX8_redo_37 fX8_74 rfl rfl ?_
    exact r_iretP dX8_redo_40 rfl ⟨rfl, _, _, _, _, _, _, _, _, _, _, _, _, _, _, _, _, _, _, _, _, _, _, _, _, _, _, _, _, _, _, _, rfl, ⟨⟨s1, s2, h, s4, s5, s6⟩, hB, hdc, hdp, hec, hep, hlr, (fun j hj => by by_cases e : j = cd n % 100; (rw [e, pk_us, pk_us, hta _ (by omega)]); (rw [pk_un e, pk_un e]; exact hta j hj)), hwo⟩⟩
  · exact absurd h7 (by decide)
theorem c_home (hC : CI L b n m cd Q ik kn kc kQ fn fr fz tal R w) : SemP mX8_home 3 0 0 [.ref 0] w (Top (nI n) (CI L b (0) (0) cd Q ik kn kc kQ fn fr fz tal R)) := by
  obtain ⟨tb, tc, tn, fc, ff, fs, ft, fu, fw, fy, fd, dc, dp, dq, ec, ep, eq, em, lr, wr, wf, wb, wn, gz, wc, ws, wa, pw, pf, pl, ta, rfl, ⟨s1, s2, s3, s4, s5, s6⟩, hB, hdc, hdp, hec, hep, hlr, hta, hwo⟩ := hC
  have hn : n ≤ 200 := Nat.le_trans s3 s4.1
  have hm : m ≤ 200 := s4.1
  have hkn : kn ≤ 200 := s5.1
  have hL : L ≤ 120 := s1
  have s3 : n ≤ m := s3
  have s6 : fn ≤ 8 := s6
  have hdc : ∀ j, j < m → dc j = nI (cd j) := hdc
  have hdp : ∀ j, j ≤ m → dp j = Q j := hdp
  have hep : ∀ j, j ≤ kn → ep j = kQ j := hep
  have hlr : ∀ j, j < fn → lr j = fr j := hlr
  have hta : ∀ j, j < 12 → ta j = tal j := hta
  have hQn : dp n = Q n := hdp n s3
  have hVn : Vq (Q n) := s4.2.2.1 n s3
  refine semP_of (by decide) (Nat.le_of_ble_eq_true rfl) rfl ?_
  refine r_aload_n dX8_home_0 rfl ?_
  refine r_get dX8_home_1 fX8_26 rfl rfl ?_
  refine r_get dX8_home_4 fX8_74 rfl rfl ?_
  refine r_istore_n (ls' := [_, _]) dX8_home_7 (by decide) rfl ?_
  refine r_aload_n dX8_home_8 rfl ?_
  refine r_pc 9 rfl ?_
  refine r_get dX8_home_9 fX8_26 rfl rfl ?_
  refine r_cVv dX8_home_12 s_clearD lX8_134 rfl rfl rfl (by decide) ⟨Nat.le_refl _, Nat.le_refl _⟩ (Nat.le_of_ble_eq_true rfl) ?_
  refine r_iload_n dX8_home_15 rfl ?_
  exact r_iretP dX8_home_16 rfl ⟨rfl, _, _, _, _, _, _, _, _, _, _, _, _, _, _, _, _, _, _, _, _, _, _, _, _, _, _, _, _, _, _, _, rfl, ⟨⟨s1, s2, Nat.le_refl _, ⟨Nat.zero_le _, fun j h => absurd h (by omega), fun j h => s4.2.2.1 j (by omega), s4.2.2.2⟩, s5, s6⟩, hB, fun j h => absurd h (by omega), fun j h => hdp j (by omega), hec, hep, hlr, hta, hwo⟩⟩
theorem c_at0 {x y : Int32} (hC : CI L b n m cd Q ik kn kc kQ fn fr fz tal R w) (h : x < 0 ∨ nI 8 ≤ x ∨ y < 0 ∨ nI 5 < y) : SemP mX8_at 4 0 0 [.ref 0, .int x, .int y] w (Top (-1) (CI L b n m cd Q ik kn kc kQ fn fr fz tal R)) := by
  obtain ⟨tb, tc, tn, fc, ff, fs, ft, fu, fw, fy, fd, dc, dp, dq, ec, ep, eq, em, lr, wr, wf, wb, wn, gz, wc, ws, wa, pw, pf, pl, ta, rfl, ⟨s1, s2, s3, s4, s5, s6⟩, hB, hdc, hdp, hec, hep, hlr, hta, hwo⟩ := hC
  have hn : n ≤ 200 := Nat.le_trans s3 s4.1
  have hm : m ≤ 200 := s4.1
  have hkn : kn ≤ 200 := s5.1
  have hL : L ≤ 120 := s1
  have s3 : n ≤ m := s3
  have s6 : fn ≤ 8 := s6
  have hdc : ∀ j, j < m → dc j = nI (cd j) := hdc
  have hdp : ∀ j, j ≤ m → dp j = Q j := hdp
  have hep : ∀ j, j ≤ kn → ep j = kQ j := hep
  have hlr : ∀ j, j < fn → lr j = fr j := hlr
  have hta : ∀ j, j < 12 → ta j = tal j := hta
  have hQn : dp n = Q n := hdp n s3
  have hVn : Vq (Q n) := s4.2.2.1 n s3
  refine semP_of (by decide) (Nat.le_of_ble_eq_true rfl) rfl ?_
  refine r_iload_n dX8_at_0 rfl ?_
  refine r_if_lt 19 dX8_at_1 (by decide) (fun h1 => ?_) (fun h1 => ?_)
  · refine r_pc 19 rfl ?_
    refine r_iconst (v := (-1)) dX8_at_19 (by decide) ?_
    exact r_iretP dX8_at_20 rfl ⟨rfl, _, _, _, _, _, _, _, _, _, _, _, _, _, _, _, _, _, _, _, _, _, _, _, _, _, _, _, _, _, _, _, rfl, ⟨⟨s1, s2, s3, s4, s5, s6⟩, hB, hdc, hdp, hec, hep, hlr, hta, hwo⟩⟩
  · refine r_pc 4 rfl ?_
    refine r_iload_n dX8_at_4 rfl ?_
    refine r_bipush (v := (nI 8)) dX8_at_5 (by decide) ?_
    refine r_icmp_ge 19 dX8_at_7 (by decide) (fun h7 => ?_) (fun h7 => ?_)
    · refine r_pc 19 rfl ?_
      refine r_iconst (v := (-1)) dX8_at_19 (by decide) ?_
      exact r_iretP dX8_at_20 rfl ⟨rfl, _, _, _, _, _, _, _, _, _, _, _, _, _, _, _, _, _, _, _, _, _, _, _, _, _, _, _, _, _, _, _, rfl, ⟨⟨s1, s2, s3, s4, s5, s6⟩, hB, hdc, hdp, hec, hep, hlr, hta, hwo⟩⟩
    · refine r_pc 10 rfl ?_
      refine r_iload_n dX8_at_10 rfl ?_
      refine r_if_lt 19 dX8_at_11 (by decide) (fun h11 => ?_) (fun h11 => ?_)
      · refine r_pc 19 rfl ?_
        refine r_iconst (v := (-1)) dX8_at_19 (by decide) ?_
        exact r_iretP dX8_at_20 rfl ⟨rfl, _, _, _, _, _, _, _, _, _, _, _, _, _, _, _, _, _, _, _, _, _, _, _, _, _, _, _, _, _, _, _, rfl, ⟨⟨s1, s2, s3, s4, s5, s6⟩, hB, hdc, hdp, hec, hep, hlr, hta, hwo⟩⟩
      · refine r_pc 14 rfl ?_
        refine r_iload_n dX8_at_14 rfl ?_
        refine r_iconst (v := (nI 5)) dX8_at_15 (by decide) ?_
        refine r_icmp_le 21 dX8_at_16 (by decide) (fun h16 => ?_) (fun h16 => ?_)
        · exact absurd h (fun z => by rcases z with z | z | z | z; (exact h1 z); (exact h7 z); (exact h11 z); (exact Int32.not_lt.mpr h16 z))
        · refine r_pc 19 rfl ?_
          refine r_iconst (v := (-1)) dX8_at_19 (by decide) ?_
          exact r_iretP dX8_at_20 rfl ⟨rfl, _, _, _, _, _, _, _, _, _, _, _, _, _, _, _, _, _, _, _, _, _, _, _, _, _, _, _, _, _, _, _, rfl, ⟨⟨s1, s2, s3, s4, s5, s6⟩, hB, hdc, hdp, hec, hep, hlr, hta, hwo⟩⟩
theorem c_at_0 {d : Nat} (hC : CI L b n m cd Q ik kn kc kQ fn fr fz tal R w) (hd : d < 8) : SemP mX8_at 4 0 0 [.ref 0, .int (nI d), .int (nI 0)] w (Top (nI (sqc (Q n) d)) (CI L b n m cd Q ik kn kc kQ fn fr fz tal R)) := by
  obtain ⟨tb, tc, tn, fc, ff, fs, ft, fu, fw, fy, fd, dc, dp, dq, ec, ep, eq, em, lr, wr, wf, wb, wn, gz, wc, ws, wa, pw, pf, pl, ta, rfl, ⟨s1, s2, s3, s4, s5, s6⟩, hB, hdc, hdp, hec, hep, hlr, hta, hwo⟩ := hC
  have hn : n ≤ 200 := Nat.le_trans s3 s4.1
  have hm : m ≤ 200 := s4.1
  have hkn : kn ≤ 200 := s5.1
  have hL : L ≤ 120 := s1
  have s3 : n ≤ m := s3
  have s6 : fn ≤ 8 := s6
  have hdc : ∀ j, j < m → dc j = nI (cd j) := hdc
  have hdp : ∀ j, j ≤ m → dp j = Q j := hdp
  have hep : ∀ j, j ≤ kn → ep j = kQ j := hep
  have hlr : ∀ j, j < fn → lr j = fr j := hlr
  have hta : ∀ j, j < 12 → ta j = tal j := hta
  have hQn : dp n = Q n := hdp n s3
  have hVn : Vq (Q n) := s4.2.2.1 n s3
  refine semP_of (by decide) (Nat.le_of_ble_eq_true rfl) rfl ?_
  refine r_iload_n dX8_at_0 rfl ?_
  refine r_if_lt 19 dX8_at_1 (by decide) (fun h1 => ?_) (fun h1 => ?_)
  · exact absurd h1 (nI_pos (by omega))
  · refine r_pc 4 rfl ?_
    refine r_iload_n dX8_at_4 rfl ?_
    refine r_bipush (v := (nI 8)) dX8_at_5 (by decide) ?_
    refine r_icmp_geN 19 dX8_at_7 (by decide) (by omega) (by omega) (fun h7 => ?_) (fun h7 => ?_)
    · exact absurd h7 (by omega)
    · refine r_pc 10 rfl ?_
      refine r_iload_n dX8_at_10 rfl ?_
      refine r_if_lt 19 dX8_at_11 (by decide) (fun h11 => ?_) (fun h11 => ?_)
      · exact absurd h11 (by decide)
      · refine r_pc 14 rfl ?_
        refine r_iload_n dX8_at_14 rfl ?_
        refine r_iconst (v := (nI 5)) dX8_at_15 (by decide) ?_
        refine r_icmp_leN 21 dX8_at_16 (by decide) (by omega) (by omega) (fun h16 => ?_) (fun h16 => ?_)
        · refine r_pc 21 rfl ?_
          refine r_aload_n dX8_at_21 rfl ?_
          refine r_get dX8_at_22 fX8_19 rfl rfl ?_
          refine r_aload_n dX8_at_25 rfl ?_
          refine r_get dX8_at_26 fX8_26 rfl rfl ?_
          refine r_cV dX8_at_29 (s_latest hn) lX8_87 rfl rfl rfl (by decide) ⟨Nat.le_refl _, Nat.le_refl _⟩ (Nat.le_of_ble_eq_true rfl) ?_
          refine r_pc 32 rfl ?_
          rw [hQn]
          refine r_cVv dX8_at_32 (s_load _) lX8_91 rfl rfl rfl (by decide) ⟨Nat.le_refl _, Nat.le_refl _⟩ (Nat.le_of_ble_eq_true rfl) ?_
          refine r_iload_n dX8_at_35 rfl ?_
          refine r_tabIn 72 dX8_at_36 (by decide) (by decide) rfl (by decide) ?_
          refine r_aload_n dX8_at_72 rfl ?_
          refine r_get dX8_at_73 fX8_19 rfl rfl ?_
          refine r_pc 76 rfl ?_
          refine r_get dX8_at_76 fX8_135 rfl rfl ?_
          refine r_iload_n dX8_at_79 rfl ?_
          refine r_iald dX8_at_80 rfl rfl hd (by decide) ?_
          exact r_iretP dX8_at_81 rfl ⟨rfl, _, _, _, _, _, _, _, _, _, _, _, _, _, _, _, _, _, _, _, _, _, _, _, _, _, _, _, _, _, _, _, rfl, ⟨⟨s1, s2, s3, s4, s5, s6⟩, hB, hdc, hdp, hec, hep, hlr, hta, hwo⟩⟩
        · exact absurd h16 (by decide)
theorem c_at_1 {d : Nat} (hC : CI L b n m cd Q ik kn kc kQ fn fr fz tal R w) (hd : d < 8) : SemP mX8_at 4 0 0 [.ref 0, .int (nI d), .int (nI 1)] w (Top (nI (sqf (Q n) d)) (CI L b n m cd Q ik kn kc kQ fn fr fz tal R)) := by
  obtain ⟨tb, tc, tn, fc, ff, fs, ft, fu, fw, fy, fd, dc, dp, dq, ec, ep, eq, em, lr, wr, wf, wb, wn, gz, wc, ws, wa, pw, pf, pl, ta, rfl, ⟨s1, s2, s3, s4, s5, s6⟩, hB, hdc, hdp, hec, hep, hlr, hta, hwo⟩ := hC
  have hn : n ≤ 200 := Nat.le_trans s3 s4.1
  have hm : m ≤ 200 := s4.1
  have hkn : kn ≤ 200 := s5.1
  have hL : L ≤ 120 := s1
  have s3 : n ≤ m := s3
  have s6 : fn ≤ 8 := s6
  have hdc : ∀ j, j < m → dc j = nI (cd j) := hdc
  have hdp : ∀ j, j ≤ m → dp j = Q j := hdp
  have hep : ∀ j, j ≤ kn → ep j = kQ j := hep
  have hlr : ∀ j, j < fn → lr j = fr j := hlr
  have hta : ∀ j, j < 12 → ta j = tal j := hta
  have hQn : dp n = Q n := hdp n s3
  have hVn : Vq (Q n) := s4.2.2.1 n s3
  refine semP_of (by decide) (Nat.le_of_ble_eq_true rfl) rfl ?_
  refine r_iload_n dX8_at_0 rfl ?_
  refine r_if_lt 19 dX8_at_1 (by decide) (fun h1 => ?_) (fun h1 => ?_)
  · exact absurd h1 (nI_pos (by omega))
  · refine r_pc 4 rfl ?_
    refine r_iload_n dX8_at_4 rfl ?_
    refine r_bipush (v := (nI 8)) dX8_at_5 (by decide) ?_
    refine r_icmp_geN 19 dX8_at_7 (by decide) (by omega) (by omega) (fun h7 => ?_) (fun h7 => ?_)
    · exact absurd h7 (by omega)
    · refine r_pc 10 rfl ?_
      refine r_iload_n dX8_at_10 rfl ?_
      refine r_if_lt 19 dX8_at_11 (by decide) (fun h11 => ?_) (fun h11 => ?_)
      · exact absurd h11 (by decide)
      · refine r_pc 14 rfl ?_
        refine r_iload_n dX8_at_14 rfl ?_
        refine r_iconst (v := (nI 5)) dX8_at_15 (by decide) ?_
        refine r_icmp_leN 21 dX8_at_16 (by decide) (by omega) (by omega) (fun h16 => ?_) (fun h16 => ?_)
        · refine r_pc 21 rfl ?_
          refine r_aload_n dX8_at_21 rfl ?_
          refine r_get dX8_at_22 fX8_19 rfl rfl ?_
          refine r_aload_n dX8_at_25 rfl ?_
          refine r_get dX8_at_26 fX8_26 rfl rfl ?_
          refine r_cV dX8_at_29 (s_latest hn) lX8_87 rfl rfl rfl (by decide) ⟨Nat.le_refl _, Nat.le_refl _⟩ (Nat.le_of_ble_eq_true rfl) ?_
          refine r_pc 32 rfl ?_
          rw [hQn]
          refine r_cVv dX8_at_32 (s_load _) lX8_91 rfl rfl rfl (by decide) ⟨Nat.le_refl _, Nat.le_refl _⟩ (Nat.le_of_ble_eq_true rfl) ?_
          refine r_iload_n dX8_at_35 rfl ?_
          refine r_tabIn 82 dX8_at_36 (by decide) (by decide) rfl (by decide) ?_
          refine r_aload_n dX8_at_82 rfl ?_
          refine r_get dX8_at_83 fX8_19 rfl rfl ?_
          refine r_pc 86 rfl ?_
          refine r_get dX8_at_86 fX8_138 rfl rfl ?_
          refine r_iload_n dX8_at_89 rfl ?_
          refine r_iald dX8_at_90 rfl rfl hd (by decide) ?_
          exact r_iretP dX8_at_91 rfl ⟨rfl, _, _, _, _, _, _, _, _, _, _, _, _, _, _, _, _, _, _, _, _, _, _, _, _, _, _, _, _, _, _, _, rfl, ⟨⟨s1, s2, s3, s4, s5, s6⟩, hB, hdc, hdp, hec, hep, hlr, hta, hwo⟩⟩
        · exact absurd h16 (by decide)
theorem c_at_2 {d : Nat} (hC : CI L b n m cd Q ik kn kc kQ fn fr fz tal R w) (hd : d < 8) : SemP mX8_at 4 0 0 [.ref 0, .int (nI d), .int (nI 2)] w (Top (stN (bes (sqc (Q n)) (sqf (Q n)) d 0)) (CI L b n m cd Q ik kn kc kQ fn fr fz tal R)) := by
  obtain ⟨tb, tc, tn, fc, ff, fs, ft, fu, fw, fy, fd, dc, dp, dq, ec, ep, eq, em, lr, wr, wf, wb, wn, gz, wc, ws, wa, pw, pf, pl, ta, rfl, ⟨s1, s2, s3, s4, s5, s6⟩, hB, hdc, hdp, hec, hep, hlr, hta, hwo⟩ := hC
  have hn : n ≤ 200 := Nat.le_trans s3 s4.1
  have hm : m ≤ 200 := s4.1
  have hkn : kn ≤ 200 := s5.1
  have hL : L ≤ 120 := s1
  have s3 : n ≤ m := s3
  have s6 : fn ≤ 8 := s6
  have hdc : ∀ j, j < m → dc j = nI (cd j) := hdc
  have hdp : ∀ j, j ≤ m → dp j = Q j := hdp
  have hep : ∀ j, j ≤ kn → ep j = kQ j := hep
  have hlr : ∀ j, j < fn → lr j = fr j := hlr
  have hta : ∀ j, j < 12 → ta j = tal j := hta
  have hQn : dp n = Q n := hdp n s3
  have hVn : Vq (Q n) := s4.2.2.1 n s3
  refine semP_of (by decide) (Nat.le_of_ble_eq_true rfl) rfl ?_
  refine r_iload_n dX8_at_0 rfl ?_
  refine r_if_lt 19 dX8_at_1 (by decide) (fun h1 => ?_) (fun h1 => ?_)
  · exact absurd h1 (nI_pos (by omega))
  · refine r_pc 4 rfl ?_
    refine r_iload_n dX8_at_4 rfl ?_
    refine r_bipush (v := (nI 8)) dX8_at_5 (by decide) ?_
    refine r_icmp_geN 19 dX8_at_7 (by decide) (by omega) (by omega) (fun h7 => ?_) (fun h7 => ?_)
    · exact absurd h7 (by omega)
    · refine r_pc 10 rfl ?_
      refine r_iload_n dX8_at_10 rfl ?_
      refine r_if_lt 19 dX8_at_11 (by decide) (fun h11 => ?_) (fun h11 => ?_)
      · exact absurd h11 (by decide)
      · refine r_pc 14 rfl ?_
        refine r_iload_n dX8_at_14 rfl ?_
        refine r_iconst (v := (nI 5)) dX8_at_15 (by decide) ?_
        refine r_icmp_leN 21 dX8_at_16 (by decide) (by omega) (by omega) (fun h16 => ?_) (fun h16 => ?_)
        · refine r_pc 21 rfl ?_
          refine r_aload_n dX8_at_21 rfl ?_
          refine r_get dX8_at_22 fX8_19 rfl rfl ?_
          refine r_aload_n dX8_at_25 rfl ?_
          refine r_get dX8_at_26 fX8_26 rfl rfl ?_
          refine r_cV dX8_at_29 (s_latest hn) lX8_87 rfl rfl rfl (by decide) ⟨Nat.le_refl _, Nat.le_refl _⟩ (Nat.le_of_ble_eq_true rfl) ?_
          refine r_pc 32 rfl ?_
          rw [hQn]
          refine r_cVv dX8_at_32 (s_load _) lX8_91 rfl rfl rfl (by decide) ⟨Nat.le_refl _, Nat.le_refl _⟩ (Nat.le_of_ble_eq_true rfl) ?_
          refine r_iload_n dX8_at_35 rfl ?_
          refine r_tabIn 92 dX8_at_36 (by decide) (by decide) rfl (by decide) ?_
          refine r_aload_n dX8_at_92 rfl ?_
          refine r_get dX8_at_93 fX8_19 rfl rfl ?_
          refine r_pc 96 rfl ?_
          refine r_iload_n dX8_at_96 rfl ?_
          refine r_iconst (v := (nI 0)) dX8_at_97 (by decide) ?_
          refine r_cV dX8_at_98 (s_beside hd (by decide) (Sq_load _) (Sd_load _)) lX8_141 rfl rfl rfl (by decide) ⟨Nat.le_refl _, Nat.le_refl _⟩ (Nat.le_of_ble_eq_true rfl) ?_
          refine r_cS dX8_at_101 (s_orNot _ (fun e he => by have := bes_lt he; omega)) lX8_145 rfl rfl (by decide) ⟨Nat.le_refl _, Nat.le_refl _⟩ (Nat.le_of_ble_eq_true rfl) ?_
          exact r_iretP dX8_at_104 rfl ⟨rfl, _, _, _, _, _, _, _, _, _, _, _, _, _, _, _, _, _, _, _, _, _, _, _, _, _, _, _, _, _, _, _, rfl, ⟨⟨s1, s2, s3, s4, s5, s6⟩, hB, hdc, hdp, hec, hep, hlr, hta, hwo⟩⟩
        · exact absurd h16 (by decide)
theorem c_at_3 {d : Nat} (hC : CI L b n m cd Q ik kn kc kQ fn fr fz tal R w) (hd : d < 8) : SemP mX8_at 4 0 0 [.ref 0, .int (nI d), .int (nI 3)] w (Top (stN (bes (sqc (Q n)) (sqf (Q n)) d 1)) (CI L b n m cd Q ik kn kc kQ fn fr fz tal R)) := by
  obtain ⟨tb, tc, tn, fc, ff, fs, ft, fu, fw, fy, fd, dc, dp, dq, ec, ep, eq, em, lr, wr, wf, wb, wn, gz, wc, ws, wa, pw, pf, pl, ta, rfl, ⟨s1, s2, s3, s4, s5, s6⟩, hB, hdc, hdp, hec, hep, hlr, hta, hwo⟩ := hC
  have hn : n ≤ 200 := Nat.le_trans s3 s4.1
  have hm : m ≤ 200 := s4.1
  have hkn : kn ≤ 200 := s5.1
  have hL : L ≤ 120 := s1
  have s3 : n ≤ m := s3
  have s6 : fn ≤ 8 := s6
  have hdc : ∀ j, j < m → dc j = nI (cd j) := hdc
  have hdp : ∀ j, j ≤ m → dp j = Q j := hdp
  have hep : ∀ j, j ≤ kn → ep j = kQ j := hep
  have hlr : ∀ j, j < fn → lr j = fr j := hlr
  have hta : ∀ j, j < 12 → ta j = tal j := hta
  have hQn : dp n = Q n := hdp n s3
  have hVn : Vq (Q n) := s4.2.2.1 n s3
  refine semP_of (by decide) (Nat.le_of_ble_eq_true rfl) rfl ?_
  refine r_iload_n dX8_at_0 rfl ?_
  refine r_if_lt 19 dX8_at_1 (by decide) (fun h1 => ?_) (fun h1 => ?_)
  · exact absurd h1 (nI_pos (by omega))
  · refine r_pc 4 rfl ?_
    refine r_iload_n dX8_at_4 rfl ?_
    refine r_bipush (v := (nI 8)) dX8_at_5 (by decide) ?_
    refine r_icmp_geN 19 dX8_at_7 (by decide) (by omega) (by omega) (fun h7 => ?_) (fun h7 => ?_)
    · exact absurd h7 (by omega)
    · refine r_pc 10 rfl ?_
      refine r_iload_n dX8_at_10 rfl ?_
      refine r_if_lt 19 dX8_at_11 (by decide) (fun h11 => ?_) (fun h11 => ?_)
      · exact absurd h11 (by decide)
      · refine r_pc 14 rfl ?_
        refine r_iload_n dX8_at_14 rfl ?_
        refine r_iconst (v := (nI 5)) dX8_at_15 (by decide) ?_
        refine r_icmp_leN 21 dX8_at_16 (by decide) (by omega) (by omega) (fun h16 => ?_) (fun h16 => ?_)
        · refine r_pc 21 rfl ?_
          refine r_aload_n dX8_at_21 rfl ?_
          refine r_get dX8_at_22 fX8_19 rfl rfl ?_
          refine r_aload_n dX8_at_25 rfl ?_
          refine r_get dX8_at_26 fX8_26 rfl rfl ?_
          refine r_cV dX8_at_29 (s_latest hn) lX8_87 rfl rfl rfl (by decide) ⟨Nat.le_refl _, Nat.le_refl _⟩ (Nat.le_of_ble_eq_true rfl) ?_
          refine r_pc 32 rfl ?_
          rw [hQn]
          refine r_cVv dX8_at_32 (s_load _) lX8_91 rfl rfl rfl (by decide) ⟨Nat.le_refl _, Nat.le_refl _⟩ (Nat.le_of_ble_eq_true rfl) ?_
          refine r_iload_n dX8_at_35 rfl ?_
          refine r_tabIn 105 dX8_at_36 (by decide) (by decide) rfl (by decide) ?_
          refine r_aload_n dX8_at_105 rfl ?_
          refine r_get dX8_at_106 fX8_19 rfl rfl ?_
          refine r_pc 109 rfl ?_
          refine r_iload_n dX8_at_109 rfl ?_
          refine r_iconst (v := (nI 1)) dX8_at_110 (by decide) ?_
          refine r_cV dX8_at_111 (s_beside hd (by decide) (Sq_load _) (Sd_load _)) lX8_141 rfl rfl rfl (by decide) ⟨Nat.le_refl _, Nat.le_refl _⟩ (Nat.le_of_ble_eq_true rfl) ?_
          refine r_cS dX8_at_114 (s_orNot _ (fun e he => by have := bes_lt he; omega)) lX8_145 rfl rfl (by decide) ⟨Nat.le_refl _, Nat.le_refl _⟩ (Nat.le_of_ble_eq_true rfl) ?_
          exact r_iretP dX8_at_117 rfl ⟨rfl, _, _, _, _, _, _, _, _, _, _, _, _, _, _, _, _, _, _, _, _, _, _, _, _, _, _, _, _, _, _, _, rfl, ⟨⟨s1, s2, s3, s4, s5, s6⟩, hB, hdc, hdp, hec, hep, hlr, hta, hwo⟩⟩
        · exact absurd h16 (by decide)
theorem c_at_4 {d : Nat} (hC : CI L b n m cd Q ik kn kc kQ fn fr fz tal R w) (hd : d < 8) : SemP mX8_at 4 0 0 [.ref 0, .int (nI d), .int (nI 4)] w (Top (stN (bes (sqc (Q n)) (sqf (Q n)) d 3)) (CI L b n m cd Q ik kn kc kQ fn fr fz tal R)) := by
  obtain ⟨tb, tc, tn, fc, ff, fs, ft, fu, fw, fy, fd, dc, dp, dq, ec, ep, eq, em, lr, wr, wf, wb, wn, gz, wc, ws, wa, pw, pf, pl, ta, rfl, ⟨s1, s2, s3, s4, s5, s6⟩, hB, hdc, hdp, hec, hep, hlr, hta, hwo⟩ := hC
  have hn : n ≤ 200 := Nat.le_trans s3 s4.1
  have hm : m ≤ 200 := s4.1
  have hkn : kn ≤ 200 := s5.1
  have hL : L ≤ 120 := s1
  have s3 : n ≤ m := s3
  have s6 : fn ≤ 8 := s6
  have hdc : ∀ j, j < m → dc j = nI (cd j) := hdc
  have hdp : ∀ j, j ≤ m → dp j = Q j := hdp
  have hep : ∀ j, j ≤ kn → ep j = kQ j := hep
  have hlr : ∀ j, j < fn → lr j = fr j := hlr
  have hta : ∀ j, j < 12 → ta j = tal j := hta
  have hQn : dp n = Q n := hdp n s3
  have hVn : Vq (Q n) := s4.2.2.1 n s3
  refine semP_of (by decide) (Nat.le_of_ble_eq_true rfl) rfl ?_
  refine r_iload_n dX8_at_0 rfl ?_
  refine r_if_lt 19 dX8_at_1 (by decide) (fun h1 => ?_) (fun h1 => ?_)
  · exact absurd h1 (nI_pos (by omega))
  · refine r_pc 4 rfl ?_
    refine r_iload_n dX8_at_4 rfl ?_
    refine r_bipush (v := (nI 8)) dX8_at_5 (by decide) ?_
    refine r_icmp_geN 19 dX8_at_7 (by decide) (by omega) (by omega) (fun h7 => ?_) (fun h7 => ?_)
    · exact absurd h7 (by omega)
    · refine r_pc 10 rfl ?_
      refine r_iload_n dX8_at_10 rfl ?_
      refine r_if_lt 19 dX8_at_11 (by decide) (fun h11 => ?_) (fun h11 => ?_)
      · exact absurd h11 (by decide)
      · refine r_pc 14 rfl ?_
        refine r_iload_n dX8_at_14 rfl ?_
        refine r_iconst (v := (nI 5)) dX8_at_15 (by decide) ?_
        refine r_icmp_leN 21 dX8_at_16 (by decide) (by omega) (by omega) (fun h16 => ?_) (fun h16 => ?_)
        · refine r_pc 21 rfl ?_
          refine r_aload_n dX8_at_21 rfl ?_
          refine r_get dX8_at_22 fX8_19 rfl rfl ?_
          refine r_aload_n dX8_at_25 rfl ?_
          refine r_get dX8_at_26 fX8_26 rfl rfl ?_
          refine r_cV dX8_at_29 (s_latest hn) lX8_87 rfl rfl rfl (by decide) ⟨Nat.le_refl _, Nat.le_refl _⟩ (Nat.le_of_ble_eq_true rfl) ?_
          refine r_pc 32 rfl ?_
          rw [hQn]
          refine r_cVv dX8_at_32 (s_load _) lX8_91 rfl rfl rfl (by decide) ⟨Nat.le_refl _, Nat.le_refl _⟩ (Nat.le_of_ble_eq_true rfl) ?_
          refine r_iload_n dX8_at_35 rfl ?_
          refine r_tabIn 118 dX8_at_36 (by decide) (by decide) rfl (by decide) ?_
          refine r_aload_n dX8_at_118 rfl ?_
          refine r_get dX8_at_119 fX8_19 rfl rfl ?_
          refine r_pc 122 rfl ?_
          refine r_iload_n dX8_at_122 rfl ?_
          refine r_iconst (v := (nI 3)) dX8_at_123 (by decide) ?_
          refine r_cV dX8_at_124 (s_beside hd (by decide) (Sq_load _) (Sd_load _)) lX8_141 rfl rfl rfl (by decide) ⟨Nat.le_refl _, Nat.le_refl _⟩ (Nat.le_of_ble_eq_true rfl) ?_
          refine r_cS dX8_at_127 (s_orNot _ (fun e he => by have := bes_lt he; omega)) lX8_145 rfl rfl (by decide) ⟨Nat.le_refl _, Nat.le_refl _⟩ (Nat.le_of_ble_eq_true rfl) ?_
          exact r_iretP dX8_at_130 rfl ⟨rfl, _, _, _, _, _, _, _, _, _, _, _, _, _, _, _, _, _, _, _, _, _, _, _, _, _, _, _, _, _, _, _, rfl, ⟨⟨s1, s2, s3, s4, s5, s6⟩, hB, hdc, hdp, hec, hep, hlr, hta, hwo⟩⟩
        · exact absurd h16 (by decide)
theorem c_at_5 {d : Nat} (hC : CI L b n m cd Q ik kn kc kQ fn fr fz tal R w) (hd : d < 8) : SemP mX8_at 4 0 0 [.ref 0, .int (nI d), .int (nI 5)] w (Top (stN (bes (sqc (Q n)) (sqf (Q n)) d 2)) (CI L b n m cd Q ik kn kc kQ fn fr fz tal R)) := by
  obtain ⟨tb, tc, tn, fc, ff, fs, ft, fu, fw, fy, fd, dc, dp, dq, ec, ep, eq, em, lr, wr, wf, wb, wn, gz, wc, ws, wa, pw, pf, pl, ta, rfl, ⟨s1, s2, s3, s4, s5, s6⟩, hB, hdc, hdp, hec, hep, hlr, hta, hwo⟩ := hC
  have hn : n ≤ 200 := Nat.le_trans s3 s4.1
  have hm : m ≤ 200 := s4.1
  have hkn : kn ≤ 200 := s5.1
  have hL : L ≤ 120 := s1
  have s3 : n ≤ m := s3
  have s6 : fn ≤ 8 := s6
  have hdc : ∀ j, j < m → dc j = nI (cd j) := hdc
  have hdp : ∀ j, j ≤ m → dp j = Q j := hdp
  have hep : ∀ j, j ≤ kn → ep j = kQ j := hep
  have hlr : ∀ j, j < fn → lr j = fr j := hlr
  have hta : ∀ j, j < 12 → ta j = tal j := hta
  have hQn : dp n = Q n := hdp n s3
  have hVn : Vq (Q n) := s4.2.2.1 n s3
  refine semP_of (by decide) (Nat.le_of_ble_eq_true rfl) rfl ?_
  refine r_iload_n dX8_at_0 rfl ?_
  refine r_if_lt 19 dX8_at_1 (by decide) (fun h1 => ?_) (fun h1 => ?_)
  · exact absurd h1 (nI_pos (by omega))
  · refine r_pc 4 rfl ?_
    refine r_iload_n dX8_at_4 rfl ?_
    refine r_bipush (v := (nI 8)) dX8_at_5 (by decide) ?_
    refine r_icmp_geN 19 dX8_at_7 (by decide) (by omega) (by omega) (fun h7 => ?_) (fun h7 => ?_)
    · exact absurd h7 (by omega)
    · refine r_pc 10 rfl ?_
      refine r_iload_n dX8_at_10 rfl ?_
      refine r_if_lt 19 dX8_at_11 (by decide) (fun h11 => ?_) (fun h11 => ?_)
      · exact absurd h11 (by decide)
      · refine r_pc 14 rfl ?_
        refine r_iload_n dX8_at_14 rfl ?_
        refine r_iconst (v := (nI 5)) dX8_at_15 (by decide) ?_
        refine r_icmp_leN 21 dX8_at_16 (by decide) (by omega) (by omega) (fun h16 => ?_) (fun h16 => ?_)
        · refine r_pc 21 rfl ?_
          refine r_aload_n dX8_at_21 rfl ?_
          refine r_get dX8_at_22 fX8_19 rfl rfl ?_
          refine r_aload_n dX8_at_25 rfl ?_
          refine r_get dX8_at_26 fX8_26 rfl rfl ?_
          refine r_cV dX8_at_29 (s_latest hn) lX8_87 rfl rfl rfl (by decide) ⟨Nat.le_refl _, Nat.le_refl _⟩ (Nat.le_of_ble_eq_true rfl) ?_
          refine r_pc 32 rfl ?_
          rw [hQn]
          refine r_cVv dX8_at_32 (s_load _) lX8_91 rfl rfl rfl (by decide) ⟨Nat.le_refl _, Nat.le_refl _⟩ (Nat.le_of_ble_eq_true rfl) ?_
          refine r_iload_n dX8_at_35 rfl ?_
          refine r_tabOut 131 dX8_at_36 (by decide) (by decide) ?_
          refine r_aload_n dX8_at_131 rfl ?_
          refine r_get dX8_at_132 fX8_19 rfl rfl ?_
          refine r_pc 135 rfl ?_
          refine r_iload_n dX8_at_135 rfl ?_
          refine r_iconst (v := (nI 2)) dX8_at_136 (by decide) ?_
          refine r_cV dX8_at_137 (s_beside hd (by decide) (Sq_load _) (Sd_load _)) lX8_141 rfl rfl rfl (by decide) ⟨Nat.le_refl _, Nat.le_refl _⟩ (Nat.le_of_ble_eq_true rfl) ?_
          refine r_cS dX8_at_140 (s_orNot _ (fun e he => by have := bes_lt he; omega)) lX8_145 rfl rfl (by decide) ⟨Nat.le_refl _, Nat.le_refl _⟩ (Nat.le_of_ble_eq_true rfl) ?_
          exact r_iretP dX8_at_143 rfl ⟨rfl, _, _, _, _, _, _, _, _, _, _, _, _, _, _, _, _, _, _, _, _, _, _, _, _, _, _, _, _, _, _, _, rfl, ⟨⟨s1, s2, s3, s4, s5, s6⟩, hB, hdc, hdp, hec, hep, hlr, hta, hwo⟩⟩
        · exact absurd h16 (by decide)
theorem c_on0 {x : Int32} (hC : CI L b n m cd Q ik kn kc kQ fn fr fz tal R w) (h : x < 0 ∨ nI 16 ≤ x) : SemP mX8_on 4 0 0 [.ref 0, .int x] w (Top (-1) (CI L b n m cd Q ik kn kc kQ fn fr fz tal R)) := by
  obtain ⟨tb, tc, tn, fc, ff, fs, ft, fu, fw, fy, fd, dc, dp, dq, ec, ep, eq, em, lr, wr, wf, wb, wn, gz, wc, ws, wa, pw, pf, pl, ta, rfl, ⟨s1, s2, s3, s4, s5, s6⟩, hB, hdc, hdp, hec, hep, hlr, hta, hwo⟩ := hC
  have hn : n ≤ 200 := Nat.le_trans s3 s4.1
  have hm : m ≤ 200 := s4.1
  have hkn : kn ≤ 200 := s5.1
  have hL : L ≤ 120 := s1
  have s3 : n ≤ m := s3
  have s6 : fn ≤ 8 := s6
  have hdc : ∀ j, j < m → dc j = nI (cd j) := hdc
  have hdp : ∀ j, j ≤ m → dp j = Q j := hdp
  have hep : ∀ j, j ≤ kn → ep j = kQ j := hep
  have hlr : ∀ j, j < fn → lr j = fr j := hlr
  have hta : ∀ j, j < 12 → ta j = tal j := hta
  have hQn : dp n = Q n := hdp n s3
  have hVn : Vq (Q n) := s4.2.2.1 n s3
  refine semP_of (by decide) (Nat.le_of_ble_eq_true rfl) rfl ?_
  refine r_iload_n dX8_on_0 rfl ?_
  refine r_if_lt 10 dX8_on_1 (by decide) (fun h1 => ?_) (fun h1 => ?_)
  · refine r_pc 10 rfl ?_
    refine r_iconst (v := (-1)) dX8_on_10 (by decide) ?_
    exact r_iretP dX8_on_11 rfl ⟨rfl, _, _, _, _, _, _, _, _, _, _, _, _, _, _, _, _, _, _, _, _, _, _, _, _, _, _, _, _, _, _, _, rfl, ⟨⟨s1, s2, s3, s4, s5, s6⟩, hB, hdc, hdp, hec, hep, hlr, hta, hwo⟩⟩
  · refine r_pc 4 rfl ?_
    refine r_iload_n dX8_on_4 rfl ?_
    refine r_bipush (v := (nI 16)) dX8_on_5 (by decide) ?_
    refine r_icmp_lt 12 dX8_on_7 (by decide) (fun h7 => ?_) (fun h7 => ?_)
    · exact absurd h (fun z => by rcases z with z | z; (exact h1 z); (exact Int32.not_le.mpr h7 z))
    · refine r_pc 10 rfl ?_
      refine r_iconst (v := (-1)) dX8_on_10 (by decide) ?_
      exact r_iretP dX8_on_11 rfl ⟨rfl, _, _, _, _, _, _, _, _, _, _, _, _, _, _, _, _, _, _, _, _, _, _, _, _, _, _, _, _, _, _, _, rfl, ⟨⟨s1, s2, s3, s4, s5, s6⟩, hB, hdc, hdp, hec, hep, hlr, hta, hwo⟩⟩
theorem c_on1 {x : Nat} (hC : CI L b n m cd Q ik kn kc kQ fn fr fz tal R w) (h : x < 16) : SemP mX8_on 4 0 0 [.ref 0, .int (nI x)] w (Top (stN (who (sqc (Q n)) 8 x)) (CI L b n m cd Q ik kn kc kQ fn fr fz tal R)) := by
  obtain ⟨tb, tc, tn, fc, ff, fs, ft, fu, fw, fy, fd, dc, dp, dq, ec, ep, eq, em, lr, wr, wf, wb, wn, gz, wc, ws, wa, pw, pf, pl, ta, rfl, ⟨s1, s2, s3, s4, s5, s6⟩, hB, hdc, hdp, hec, hep, hlr, hta, hwo⟩ := hC
  have hn : n ≤ 200 := Nat.le_trans s3 s4.1
  have hm : m ≤ 200 := s4.1
  have hkn : kn ≤ 200 := s5.1
  have hL : L ≤ 120 := s1
  have s3 : n ≤ m := s3
  have s6 : fn ≤ 8 := s6
  have hdc : ∀ j, j < m → dc j = nI (cd j) := hdc
  have hdp : ∀ j, j ≤ m → dp j = Q j := hdp
  have hep : ∀ j, j ≤ kn → ep j = kQ j := hep
  have hlr : ∀ j, j < fn → lr j = fr j := hlr
  have hta : ∀ j, j < 12 → ta j = tal j := hta
  have hQn : dp n = Q n := hdp n s3
  have hVn : Vq (Q n) := s4.2.2.1 n s3
  refine semP_of (by decide) (Nat.le_of_ble_eq_true rfl) rfl ?_
  refine r_iload_n dX8_on_0 rfl ?_
  refine r_if_lt 10 dX8_on_1 (by decide) (fun h1 => ?_) (fun h1 => ?_)
  · exact absurd h1 (nI_pos (by omega))
  · refine r_pc 4 rfl ?_
    refine r_iload_n dX8_on_4 rfl ?_
    refine r_bipush (v := (nI 16)) dX8_on_5 (by decide) ?_
    refine r_icmp_ltN 12 dX8_on_7 (by decide) (by omega) (by omega) (fun h7 => ?_) (fun h7 => ?_)
    · refine r_pc 12 rfl ?_
      refine r_aload_n dX8_on_12 rfl ?_
      refine r_get dX8_on_13 fX8_19 rfl rfl ?_
      refine r_aload_n dX8_on_16 rfl ?_
      refine r_get dX8_on_17 fX8_26 rfl rfl ?_
      refine r_cV dX8_on_20 (s_latest hn) lX8_87 rfl rfl rfl (by decide) ⟨Nat.le_refl _, Nat.le_refl _⟩ (Nat.le_of_ble_eq_true rfl) ?_
      refine r_pc 23 rfl ?_
      rw [hQn]
      refine r_cVv dX8_on_23 (s_load _) lX8_91 rfl rfl rfl (by decide) ⟨Nat.le_refl _, Nat.le_refl _⟩ (Nat.le_of_ble_eq_true rfl) ?_
      refine r_aload_n dX8_on_26 rfl ?_
      refine r_get dX8_on_27 fX8_19 rfl rfl ?_
      refine r_get dX8_on_30 fX8_148 rfl rfl ?_
      refine r_iload_n dX8_on_33 rfl ?_
      refine r_pc 34 rfl ?_
      refine r_iald dX8_on_34 rfl rfl h (by decide) ?_
      refine r_cS dX8_on_35 (s_orNot _ (fun e he => by have := who_lt he; omega)) lX8_145 rfl rfl (by decide) ⟨Nat.le_refl _, Nat.le_refl _⟩ (Nat.le_of_ble_eq_true rfl) ?_
      exact r_iretP dX8_on_38 rfl ⟨rfl, _, _, _, _, _, _, _, _, _, _, _, _, _, _, _, _, _, _, _, _, _, _, _, _, _, _, _, _, _, _, _, rfl, ⟨⟨s1, s2, s3, s4, s5, s6⟩, hB, hdc, hdp, hec, hep, hlr, hta, hwo⟩⟩
    · exact absurd h7 (by omega)
theorem c_meant0 {x : Int32} (hC : CI L b n m cd Q ik kn kc kQ fn fr fz tal R w) (h : x < 0 ∨ nI 9 ≤ x) : SemP mX8_meant 5 0 0 [.ref 0, .int x] w (Top (-1) (CI L b n m cd Q ik kn kc kQ fn fr fz tal R)) := by
  obtain ⟨tb, tc, tn, fc, ff, fs, ft, fu, fw, fy, fd, dc, dp, dq, ec, ep, eq, em, lr, wr, wf, wb, wn, gz, wc, ws, wa, pw, pf, pl, ta, rfl, ⟨s1, s2, s3, s4, s5, s6⟩, hB, hdc, hdp, hec, hep, hlr, hta, hwo⟩ := hC
  have hn : n ≤ 200 := Nat.le_trans s3 s4.1
  have hm : m ≤ 200 := s4.1
  have hkn : kn ≤ 200 := s5.1
  have hL : L ≤ 120 := s1
  have s3 : n ≤ m := s3
  have s6 : fn ≤ 8 := s6
  have hdc : ∀ j, j < m → dc j = nI (cd j) := hdc
  have hdp : ∀ j, j ≤ m → dp j = Q j := hdp
  have hep : ∀ j, j ≤ kn → ep j = kQ j := hep
  have hlr : ∀ j, j < fn → lr j = fr j := hlr
  have hta : ∀ j, j < 12 → ta j = tal j := hta
  have hQn : dp n = Q n := hdp n s3
  have hVn : Vq (Q n) := s4.2.2.1 n s3
  refine semP_of (by decide) (Nat.le_of_ble_eq_true rfl) rfl ?_
  refine r_iload_n dX8_meant_0 rfl ?_
  refine r_if_lt 10 dX8_meant_1 (by decide) (fun h1 => ?_) (fun h1 => ?_)
  · refine r_pc 10 rfl ?_
    refine r_iconst (v := (-1)) dX8_meant_10 (by decide) ?_
    exact r_iretP dX8_meant_11 rfl ⟨rfl, _, _, _, _, _, _, _, _, _, _, _, _, _, _, _, _, _, _, _, _, _, _, _, _, _, _, _, _, _, _, _, rfl, ⟨⟨s1, s2, s3, s4, s5, s6⟩, hB, hdc, hdp, hec, hep, hlr, hta, hwo⟩⟩
  · refine r_pc 4 rfl ?_
    refine r_iload_n dX8_meant_4 rfl ?_
    refine r_bipush (v := (nI 9)) dX8_meant_5 (by decide) ?_
    refine r_icmp_lt 12 dX8_meant_7 (by decide) (fun h7 => ?_) (fun h7 => ?_)
    · exact absurd h (fun z => by rcases z with z | z; (exact h1 z); (exact Int32.not_le.mpr h7 z))
    · refine r_pc 10 rfl ?_
      refine r_iconst (v := (-1)) dX8_meant_10 (by decide) ?_
      exact r_iretP dX8_meant_11 rfl ⟨rfl, _, _, _, _, _, _, _, _, _, _, _, _, _, _, _, _, _, _, _, _, _, _, _, _, _, _, _, _, _, _, _, rfl, ⟨⟨s1, s2, s3, s4, s5, s6⟩, hB, hdc, hdp, hec, hep, hlr, hta, hwo⟩⟩
theorem c_meant1 {x : Nat} (hC : CI L b n m cd Q ik kn kc kQ fn fr fz tal R w) (h : x < 9) : SemP mX8_meant 5 0 0 [.ref 0, .int (nI x)] w (Top (mbI (mnt (sqc (Q n)) (sqf (Q n)) x) 8) (CI L b n m cd Q ik kn kc kQ fn fr fz tal R)) := by
  obtain ⟨tb, tc, tn, fc, ff, fs, ft, fu, fw, fy, fd, dc, dp, dq, ec, ep, eq, em, lr, wr, wf, wb, wn, gz, wc, ws, wa, pw, pf, pl, ta, rfl, ⟨s1, s2, s3, s4, s5, s6⟩, hB, hdc, hdp, hec, hep, hlr, hta, hwo⟩ := hC
  have hn : n ≤ 200 := Nat.le_trans s3 s4.1
  have hm : m ≤ 200 := s4.1
  have hkn : kn ≤ 200 := s5.1
  have hL : L ≤ 120 := s1
  have s3 : n ≤ m := s3
  have s6 : fn ≤ 8 := s6
  have hdc : ∀ j, j < m → dc j = nI (cd j) := hdc
  have hdp : ∀ j, j ≤ m → dp j = Q j := hdp
  have hep : ∀ j, j ≤ kn → ep j = kQ j := hep
  have hlr : ∀ j, j < fn → lr j = fr j := hlr
  have hta : ∀ j, j < 12 → ta j = tal j := hta
  have hQn : dp n = Q n := hdp n s3
  have hVn : Vq (Q n) := s4.2.2.1 n s3
  refine semP_of (by decide) (Nat.le_of_ble_eq_true rfl) rfl ?_
  refine r_iload_n dX8_meant_0 rfl ?_
  refine r_if_lt 10 dX8_meant_1 (by decide) (fun h1 => ?_) (fun h1 => ?_)
  · exact absurd h1 (nI_pos (by omega))
  · refine r_pc 4 rfl ?_
    refine r_iload_n dX8_meant_4 rfl ?_
    refine r_bipush (v := (nI 9)) dX8_meant_5 (by decide) ?_
    refine r_icmp_ltN 12 dX8_meant_7 (by decide) (by omega) (by omega) (fun h7 => ?_) (fun h7 => ?_)
    · refine r_pc 12 rfl ?_
      refine r_aload_n dX8_meant_12 rfl ?_
      refine r_get dX8_meant_13 fX8_19 rfl rfl ?_
      refine r_aload_n dX8_meant_16 rfl ?_
      refine r_get dX8_meant_17 fX8_26 rfl rfl ?_
      refine r_cV dX8_meant_20 (s_latest hn) lX8_87 rfl rfl rfl (by decide) ⟨Nat.le_refl _, Nat.le_refl _⟩ (Nat.le_of_ble_eq_true rfl) ?_
      refine r_pc 23 rfl ?_
      rw [hQn]
      refine r_cVv dX8_meant_23 (s_load _) lX8_91 rfl rfl rfl (by decide) ⟨Nat.le_refl _, Nat.le_refl _⟩ (Nat.le_of_ble_eq_true rfl) ?_
      refine r_aload_n dX8_meant_26 rfl ?_
      refine r_get dX8_meant_27 fX8_19 rfl rfl ?_
      refine r_iload_n dX8_meant_30 rfl ?_
      refine r_cV dX8_meant_31 (s_meantBy h (Sq_load _) (Sd_load _)) lX8_151 rfl rfl rfl (by decide) ⟨Nat.le_refl _, Nat.le_refl _⟩ (Nat.le_of_ble_eq_true rfl) ?_
      refine r_pc 34 rfl ?_
      exact r_iretP dX8_meant_34 rfl ⟨rfl, _, _, _, _, _, _, _, _, _, _, _, _, _, _, _, _, _, _, _, _, _, _, _, _, _, _, _, _, _, _, _, rfl, ⟨⟨s1, s2, s3, s4, s5, s6⟩, hB, hdc, hdp, hec, hep, hlr, hta, hwo⟩⟩
    · exact absurd h7 (by omega)
theorem c_count_0 (hC : CI L b n m cd Q ik kn kc kQ fn fr fz tal R w) : SemP mX8_count 4 0 0 [.ref 0, .int (nI 0)] w (Top (nI (cnt (ahB (sqc (Q n)) (sqf (Q n)) false) 8)) (CI L b n m cd Q ik kn kc kQ fn fr fz tal R)) := by
  obtain ⟨tb, tc, tn, fc, ff, fs, ft, fu, fw, fy, fd, dc, dp, dq, ec, ep, eq, em, lr, wr, wf, wb, wn, gz, wc, ws, wa, pw, pf, pl, ta, rfl, ⟨s1, s2, s3, s4, s5, s6⟩, hB, hdc, hdp, hec, hep, hlr, hta, hwo⟩ := hC
  have hn : n ≤ 200 := Nat.le_trans s3 s4.1
  have hm : m ≤ 200 := s4.1
  have hkn : kn ≤ 200 := s5.1
  have hL : L ≤ 120 := s1
  have s3 : n ≤ m := s3
  have s6 : fn ≤ 8 := s6
  have hdc : ∀ j, j < m → dc j = nI (cd j) := hdc
  have hdp : ∀ j, j ≤ m → dp j = Q j := hdp
  have hep : ∀ j, j ≤ kn → ep j = kQ j := hep
  have hlr : ∀ j, j < fn → lr j = fr j := hlr
  have hta : ∀ j, j < 12 → ta j = tal j := hta
  have hQn : dp n = Q n := hdp n s3
  have hVn : Vq (Q n) := s4.2.2.1 n s3
  refine semP_of (by decide) (Nat.le_of_ble_eq_true rfl) rfl ?_
  refine r_aload_n dX8_count_0 rfl ?_
  refine r_get dX8_count_1 fX8_19 rfl rfl ?_
  refine r_aload_n dX8_count_4 rfl ?_
  refine r_get dX8_count_5 fX8_26 rfl rfl ?_
  refine r_cV dX8_count_8 (s_latest hn) lX8_87 rfl rfl rfl (by decide) ⟨Nat.le_refl _, Nat.le_refl _⟩ (Nat.le_of_ble_eq_true rfl) ?_
  refine r_pc 11 rfl ?_
  rw [hQn]
  refine r_cVv dX8_count_11 (s_load _) lX8_91 rfl rfl rfl (by decide) ⟨Nat.le_refl _, Nat.le_refl _⟩ (Nat.le_of_ble_eq_true rfl) ?_
  refine r_iload_n dX8_count_14 rfl ?_
  refine r_tabIn 40 dX8_count_15 (by decide) (by decide) rfl (by decide) ?_
  refine r_aload_n dX8_count_40 rfl ?_
  refine r_get dX8_count_41 fX8_19 rfl rfl ?_
  refine r_pc 44 rfl ?_
  refine r_iconst (v := (nI 0)) dX8_count_44 (by decide) ?_
  refine r_cV dX8_count_45 (s_atHome (b := false) (Sq_load _)) lX8_154 rfl rfl rfl (by decide) ⟨Nat.le_refl _, Nat.le_refl _⟩ (Nat.le_of_ble_eq_true rfl) ?_
  exact r_iretP dX8_count_48 rfl ⟨rfl, _, _, _, _, _, _, _, _, _, _, _, _, _, _, _, _, _, _, _, _, _, _, _, _, _, _, _, _, _, _, _, rfl, ⟨⟨s1, s2, s3, s4, s5, s6⟩, hB, hdc, hdp, hec, hep, hlr, hta, hwo⟩⟩
theorem c_count_1 (hC : CI L b n m cd Q ik kn kc kQ fn fr fz tal R w) : SemP mX8_count 4 0 0 [.ref 0, .int (nI 1)] w (Top (nI (cnt (ahB (sqc (Q n)) (sqf (Q n)) true) 8)) (CI L b n m cd Q ik kn kc kQ fn fr fz tal R)) := by
  obtain ⟨tb, tc, tn, fc, ff, fs, ft, fu, fw, fy, fd, dc, dp, dq, ec, ep, eq, em, lr, wr, wf, wb, wn, gz, wc, ws, wa, pw, pf, pl, ta, rfl, ⟨s1, s2, s3, s4, s5, s6⟩, hB, hdc, hdp, hec, hep, hlr, hta, hwo⟩ := hC
  have hn : n ≤ 200 := Nat.le_trans s3 s4.1
  have hm : m ≤ 200 := s4.1
  have hkn : kn ≤ 200 := s5.1
  have hL : L ≤ 120 := s1
  have s3 : n ≤ m := s3
  have s6 : fn ≤ 8 := s6
  have hdc : ∀ j, j < m → dc j = nI (cd j) := hdc
  have hdp : ∀ j, j ≤ m → dp j = Q j := hdp
  have hep : ∀ j, j ≤ kn → ep j = kQ j := hep
  have hlr : ∀ j, j < fn → lr j = fr j := hlr
  have hta : ∀ j, j < 12 → ta j = tal j := hta
  have hQn : dp n = Q n := hdp n s3
  have hVn : Vq (Q n) := s4.2.2.1 n s3
  refine semP_of (by decide) (Nat.le_of_ble_eq_true rfl) rfl ?_
  refine r_aload_n dX8_count_0 rfl ?_
  refine r_get dX8_count_1 fX8_19 rfl rfl ?_
  refine r_aload_n dX8_count_4 rfl ?_
  refine r_get dX8_count_5 fX8_26 rfl rfl ?_
  refine r_cV dX8_count_8 (s_latest hn) lX8_87 rfl rfl rfl (by decide) ⟨Nat.le_refl _, Nat.le_refl _⟩ (Nat.le_of_ble_eq_true rfl) ?_
  refine r_pc 11 rfl ?_
  rw [hQn]
  refine r_cVv dX8_count_11 (s_load _) lX8_91 rfl rfl rfl (by decide) ⟨Nat.le_refl _, Nat.le_refl _⟩ (Nat.le_of_ble_eq_true rfl) ?_
  refine r_iload_n dX8_count_14 rfl ?_
  refine r_tabIn 49 dX8_count_15 (by decide) (by decide) rfl (by decide) ?_
  refine r_aload_n dX8_count_49 rfl ?_
  refine r_get dX8_count_50 fX8_19 rfl rfl ?_
  refine r_pc 53 rfl ?_
  refine r_iconst (v := (nI 1)) dX8_count_53 (by decide) ?_
  refine r_cV dX8_count_54 (s_atHome (b := true) (Sq_load _)) lX8_154 rfl rfl rfl (by decide) ⟨Nat.le_refl _, Nat.le_refl _⟩ (Nat.le_of_ble_eq_true rfl) ?_
  exact r_iretP dX8_count_57 rfl ⟨rfl, _, _, _, _, _, _, _, _, _, _, _, _, _, _, _, _, _, _, _, _, _, _, _, _, _, _, _, _, _, _, _, rfl, ⟨⟨s1, s2, s3, s4, s5, s6⟩, hB, hdc, hdp, hec, hep, hlr, hta, hwo⟩⟩
theorem c_count_2 (hC : CI L b n m cd Q ik kn kc kQ fn fr fz tal R w) : SemP mX8_count 4 0 0 [.ref 0, .int (nI 2)] w (Top (nI (cnt (cpB (sqc (Q n)) (sqf (Q n))) 8)) (CI L b n m cd Q ik kn kc kQ fn fr fz tal R)) := by
  obtain ⟨tb, tc, tn, fc, ff, fs, ft, fu, fw, fy, fd, dc, dp, dq, ec, ep, eq, em, lr, wr, wf, wb, wn, gz, wc, ws, wa, pw, pf, pl, ta, rfl, ⟨s1, s2, s3, s4, s5, s6⟩, hB, hdc, hdp, hec, hep, hlr, hta, hwo⟩ := hC
  have hn : n ≤ 200 := Nat.le_trans s3 s4.1
  have hm : m ≤ 200 := s4.1
  have hkn : kn ≤ 200 := s5.1
  have hL : L ≤ 120 := s1
  have s3 : n ≤ m := s3
  have s6 : fn ≤ 8 := s6
  have hdc : ∀ j, j < m → dc j = nI (cd j) := hdc
  have hdp : ∀ j, j ≤ m → dp j = Q j := hdp
  have hep : ∀ j, j ≤ kn → ep j = kQ j := hep
  have hlr : ∀ j, j < fn → lr j = fr j := hlr
  have hta : ∀ j, j < 12 → ta j = tal j := hta
  have hQn : dp n = Q n := hdp n s3
  have hVn : Vq (Q n) := s4.2.2.1 n s3
  refine semP_of (by decide) (Nat.le_of_ble_eq_true rfl) rfl ?_
  refine r_aload_n dX8_count_0 rfl ?_
  refine r_get dX8_count_1 fX8_19 rfl rfl ?_
  refine r_aload_n dX8_count_4 rfl ?_
  refine r_get dX8_count_5 fX8_26 rfl rfl ?_
  refine r_cV dX8_count_8 (s_latest hn) lX8_87 rfl rfl rfl (by decide) ⟨Nat.le_refl _, Nat.le_refl _⟩ (Nat.le_of_ble_eq_true rfl) ?_
  refine r_pc 11 rfl ?_
  rw [hQn]
  refine r_cVv dX8_count_11 (s_load _) lX8_91 rfl rfl rfl (by decide) ⟨Nat.le_refl _, Nat.le_refl _⟩ (Nat.le_of_ble_eq_true rfl) ?_
  refine r_iload_n dX8_count_14 rfl ?_
  refine r_tabIn 58 dX8_count_15 (by decide) (by decide) rfl (by decide) ?_
  refine r_aload_n dX8_count_58 rfl ?_
  refine r_get dX8_count_59 fX8_19 rfl rfl ?_
  refine r_pc 62 rfl ?_
  refine r_cV dX8_count_62 (s_couples (Sq_load _) (Sd_load _)) lX8_158 rfl rfl rfl (by decide) ⟨Nat.le_refl _, Nat.le_refl _⟩ (Nat.le_of_ble_eq_true rfl) ?_
  exact r_iretP dX8_count_65 rfl ⟨rfl, _, _, _, _, _, _, _, _, _, _, _, _, _, _, _, _, _, _, _, _, _, _, _, _, _, _, _, _, _, _, _, rfl, ⟨⟨s1, s2, s3, s4, s5, s6⟩, hB, hdc, hdp, hec, hep, hlr, hta, hwo⟩⟩
theorem c_count_x {x : Int32} (hC : CI L b n m cd Q ik kn kc kQ fn fr fz tal R w) (h : x.toInt < 0 ∨ 2 < x.toInt) : SemP mX8_count 4 0 0 [.ref 0, .int x] w (Top (-1) (CI L b n m cd Q ik kn kc kQ fn fr fz tal R)) := by
  obtain ⟨tb, tc, tn, fc, ff, fs, ft, fu, fw, fy, fd, dc, dp, dq, ec, ep, eq, em, lr, wr, wf, wb, wn, gz, wc, ws, wa, pw, pf, pl, ta, rfl, ⟨s1, s2, s3, s4, s5, s6⟩, hB, hdc, hdp, hec, hep, hlr, hta, hwo⟩ := hC
  have hn : n ≤ 200 := Nat.le_trans s3 s4.1
  have hm : m ≤ 200 := s4.1
  have hkn : kn ≤ 200 := s5.1
  have hL : L ≤ 120 := s1
  have s3 : n ≤ m := s3
  have s6 : fn ≤ 8 := s6
  have hdc : ∀ j, j < m → dc j = nI (cd j) := hdc
  have hdp : ∀ j, j ≤ m → dp j = Q j := hdp
  have hep : ∀ j, j ≤ kn → ep j = kQ j := hep
  have hlr : ∀ j, j < fn → lr j = fr j := hlr
  have hta : ∀ j, j < 12 → ta j = tal j := hta
  have hQn : dp n = Q n := hdp n s3
  have hVn : Vq (Q n) := s4.2.2.1 n s3
  refine semP_of (by decide) (Nat.le_of_ble_eq_true rfl) rfl ?_
  refine r_aload_n dX8_count_0 rfl ?_
  refine r_get dX8_count_1 fX8_19 rfl rfl ?_
  refine r_aload_n dX8_count_4 rfl ?_
  refine r_get dX8_count_5 fX8_26 rfl rfl ?_
  refine r_cV dX8_count_8 (s_latest hn) lX8_87 rfl rfl rfl (by decide) ⟨Nat.le_refl _, Nat.le_refl _⟩ (Nat.le_of_ble_eq_true rfl) ?_
  refine r_pc 11 rfl ?_
  rw [hQn]
  refine r_cVv dX8_count_11 (s_load _) lX8_91 rfl rfl rfl (by decide) ⟨Nat.le_refl _, Nat.le_refl _⟩ (Nat.le_of_ble_eq_true rfl) ?_
  refine r_iload_n dX8_count_14 rfl ?_
  refine r_tabOut 66 dX8_count_15 h (by decide) ?_
  refine r_iconst (v := (-1)) dX8_count_66 (by decide) ?_
  exact r_iretP dX8_count_67 rfl ⟨rfl, _, _, _, _, _, _, _, _, _, _, _, _, _, _, _, _, _, _, _, _, _, _, _, _, _, _, _, _, _, _, _, rfl, ⟨⟨s1, s2, s3, s4, s5, s6⟩, hB, hdc, hdp, hec, hep, hlr, hta, hwo⟩⟩
end C3
