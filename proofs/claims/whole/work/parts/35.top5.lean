/-- the calls that a text gives -/
theorem rtx_ok {b : Nat → Nat} {L : Nat} (hL : L ≤ 120) : ∀ (m s : Nat) (l : List Nat), s ≤ L → l.length ≤ s → (∀ x ∈ l, x / 100 < 9 ∧ x % 100 < 12) → (rtx b L m s l).1 = none → (rtx b L m s l).2.length ≤ 120 ∧ 1 ≤ (rtx b L m s l).2.length ∧ ∀ x ∈ (rtx b L m s l).2, x / 100 < 9 ∧ x % 100 < 12
  | 0, s, l, _, _, _, h => by cases h
  | m + 1, s, l, hs, hl, hc, h => by
    unfold rtx at h ⊢
    cases hx : (rdc b L s).1 with
    | false => rw [hx] at h; cases h
    | true =>
      rw [hx] at h
      dsimp only at h ⊢
      obtain ⟨a1, a2, a3, a4, w, g, hw, hg, a5⟩ := rdc_at hs hx
      have len : (l ++ List.replicate (rdc b L s).2.2.2 (rdc b L s).2.2.1).length = l.length + (rdc b L s).2.2.2 := by simp
      have hc' : ∀ x ∈ l ++ List.replicate (rdc b L s).2.2.2 (rdc b L s).2.2.1, x / 100 < 9 ∧ x % 100 < 12 := by
        intro x hx
        rcases List.mem_append.mp hx with h | h
        · exact hc x h
        · rw [List.eq_of_mem_replicate h, a5]; omega
      by_cases q1 : (rdc b L s).2.1 = L
      · rw [if_pos q1]
        exact ⟨by rw [len]; omega, by rw [len]; omega, hc'⟩
      · rw [if_neg q1] at h ⊢
        by_cases q2 : byt b L (rdc b L s).2.1 = 44
        · rw [if_pos q2] at h ⊢
          have : (rdc b L s).2.1 < L := by omega
          exact rtx_ok hL m _ _ (by omega) (by rw [len]; omega) hc' h
        · rw [if_neg q2] at h
          cases h
/-- the text on the tape -/
def tx (b : Nat → Nat) (L : Nat) : Option Nat × List Nat := rtx b L 121 0 []
theorem tx_ok {b : Nat → Nat} {L : Nat} (hL : L ≤ 120) (h : (tx b L).1 = none) : (tx b L).2.length ≤ 120 ∧ 1 ≤ (tx b L).2.length ∧ ∀ x ∈ (tx b L).2, x / 100 < 9 ∧ x % 100 < 12 := rtx_ok hL 121 0 [] (Nat.zero_le _) (Nat.le_refl _) (fun x hx => by cases hx) h
theorem putL_at (tc : Nat → Int32) {l : List Nat} {j : Nat} (h : j < l.length) : putL tc l j = nI (l.getD j 0) := by
  unfold putL
  rw [List.getElem?_eq_getElem h, List.getD_eq_getElem?_getD, List.getElem?_eq_getElem h]
  rfl
theorem getD_mem {l : List Nat} {j : Nat} (h : j < l.length) : l.getD j 0 ∈ l := by
  rw [List.getD_eq_getElem?_getD, List.getElem?_eq_getElem h]
  exact List.getElem_mem h
theorem code_eq (x : Nat) : x = 100 * (x / 100) + x % 100 := by omega
section C6
variable {R : List AE} {w : WD} {L : Nat} {b : Nat → Nat} {n m : Nat} {cd : Nat → Nat} {Q : Nat → Int64} {ik : Bool} {kn : Nat} {kc : Nat → Nat} {kQ : Nat → Int64} {fn : Nat} {fr : Nat → Int32} {fz : Int32} {tal : Nat → Int32}
theorem c_way_b {x : Int32} (hC : CI L b n m cd Q ik kn kc kQ fn fr fz tal R w) (h : x < -1) : SemP mX8_way 7 0 0 [.ref 0, .int x] w (Top (-1) (CI L b n m cd Q ik kn kc kQ fn fr fz tal R)) := by
  obtain ⟨tb, tc, tn, fc, ff, fs, ft, fu, fw, fy, fd, dc, dp, dq, ec, ep, eq, em, lr, wr, wf, wb, wn, gz, wc, ws, wa, pw, pf, pl, ta, rfl, ⟨s1, s2, s3, s4, s5, s6⟩, hB, hdc, hdp, hec, hep, hlr, hta, hwo⟩ := hC
  have hn : n ≤ 200 := Nat.le_trans s3 s4.1
  have hm : m ≤ 200 := s4.1
  have hkn : kn ≤ 200 := s5.1
  have hQn : dp n = Q n := hdp n s3
  have hVn : Vq (Q n) := s4.2.2.1 n s3
  have hBy : By tb L b := ⟨s1, fun j hj => ⟨hB j hj, s2 j hj⟩⟩
  refine semP_of (by decide) (Nat.le_of_ble_eq_true rfl) rfl ?_
  refine r_iload_n dX8_way_0 rfl ?_
  refine r_iconst (v := (-1)) dX8_way_1 (by decide) ?_
  refine r_icmp_ge 7 dX8_way_2 (by decide) (fun h2 => ?_) (fun h2 => ?_)
  · exact absurd h (ge_m1.mp h2)
  · refine r_pc 5 rfl ?_
    refine r_iconst (v := (-1)) dX8_way_5 (by decide) ?_
    exact r_iretP dX8_way_6 rfl ⟨rfl, _, _, _, _, _, _, _, _, _, _, _, _, _, _, _, _, _, _, _, _, _, _, _, _, _, _, _, _, _, _, _, rfl, ⟨⟨s1, s2, s3, s4, s5, s6⟩, hB, hdc, hdp, hec, hep, hlr, hta, hwo⟩⟩
theorem c_way_m (hI : ∀ q c q', Inj (sqc q) → c < 108 → nxC q c = some q' → Inj (sqc q')) (hC : CI L b n m cd Q ik kn kc kQ fn fr fz tal R w) : SemP mX8_way 7 0 0 [.ref 0, .int (-1)] w (Top (wansI (wayB nxC homeP (Q n))) (CI L b n m cd Q ik kn kc kQ fn fr fz tal R)) := by
  obtain ⟨tb, tc, tn, fc, ff, fs, ft, fu, fw, fy, fd, dc, dp, dq, ec, ep, eq, em, lr, wr, wf, wb, wn, gz, wc, ws, wa, pw, pf, pl, ta, rfl, ⟨s1, s2, s3, s4, s5, s6⟩, hB, hdc, hdp, hec, hep, hlr, hta, hwo⟩ := hC
  have hn : n ≤ 200 := Nat.le_trans s3 s4.1
  have hm : m ≤ 200 := s4.1
  have hkn : kn ≤ 200 := s5.1
  have hQn : dp n = Q n := hdp n s3
  have hVn : Vq (Q n) := s4.2.2.1 n s3
  have hBy : By tb L b := ⟨s1, fun j hj => ⟨hB j hj, s2 j hj⟩⟩
  refine semP_of (by decide) (Nat.le_of_ble_eq_true rfl) rfl ?_
  generalize hw0 : (cW tb (nI L) tc tn fc ff fs ft fu fw fy fd dc dp dq (nI n) (nI m) ec ep eq (nI kn) em (bI ik) lr (nI fn) (fz) (homeP) wr wf wb wn gz wc ws wa pw pf pl ta, R) = w0
  have T : ∀ (fc ff fs ft fu fw : Nat → Int32) (fy fd : Int32) (wr : Nat → Int64) (wf wb : Nat → Int32) (wn : Int32) (gz : G8) (wc : Nat → Int32) (wa : Int32), WayOk (Q n) wa wc → Rp mX8_way 7 0 0 w0 (Top (wansI (wayB nxC homeP (Q n))) (CI L b n m cd Q ik kn kc kQ fn fr fz tal R)) 0 0 39 [some (.ref 0), some (.int (-1))] [] (cW tb (nI L) tc tn fc ff fs ft fu fw fy fd dc dp dq (nI n) (nI m) ec ep eq (nI kn) em (bI ik) lr (nI fn) (fz) (homeP) wr wf wb wn gz wc (Q n) wa pw pf pl ta, R) := by
    intro fc ff fs ft fu fw fy fd wr wf wb wn gz wc wa hwo
    obtain ⟨o1, o2, o3⟩ := id hwo
    rw [o1] at hwo ⊢
    refine r_aload_n dX8_way_39 rfl ?_
    refine r_get dX8_way_40 fX8_47 rfl rfl ?_
    refine r_get dX8_way_43 fX8_168 rfl rfl ?_
    refine r_if_lt 54 dX8_way_46 (by decide) (fun h46 => ?_) (fun h46 => ?_)
    · refine r_pc 54 rfl ?_
      refine r_aload_n dX8_way_54 rfl ?_
      refine r_get dX8_way_55 fX8_47 rfl rfl ?_
      refine r_get dX8_way_58 fX8_168 rfl rfl ?_
      exact r_iretP dX8_way_61 rfl ⟨rfl, _, _, _, _, _, _, _, _, _, _, _, _, _, _, _, _, _, _, _, _, _, _, _, _, _, _, _, _, _, _, _, rfl, ⟨⟨s1, s2, s3, s4, s5, s6⟩, hB, hdc, hdp, hec, hep, hlr, hta, hwo⟩⟩
    · refine r_pc 49 rfl ?_
      refine r_iload_n dX8_way_49 rfl ?_
      refine r_iconst (v := (-1)) dX8_way_50 (by decide) ?_
      refine r_icmp_ne 62 dX8_way_51 (by decide) (fun h51 => ?_) (fun h51 => ?_)
      · exact absurd rfl h51
      · refine r_pc 54 rfl ?_
        refine r_aload_n dX8_way_54 rfl ?_
        refine r_get dX8_way_55 fX8_47 rfl rfl ?_
        refine r_get dX8_way_58 fX8_168 rfl rfl ?_
        exact r_iretP dX8_way_61 rfl ⟨rfl, _, _, _, _, _, _, _, _, _, _, _, _, _, _, _, _, _, _, _, _, _, _, _, _, _, _, _, _, _, _, _, rfl, ⟨⟨s1, s2, s3, s4, s5, s6⟩, hB, hdc, hdp, hec, hep, hlr, hta, hwo⟩⟩
  subst hw0
  by_cases hq : ws = Q n
  · subst hq
    refine r_iload_n dX8_way_0 rfl ?_
    refine r_iconst (v := (-1)) dX8_way_1 (by decide) ?_
    refine r_icmp_ge 7 dX8_way_2 (by decide) (fun h2 => ?_) (fun h2 => ?_)
    · refine r_pc 7 rfl ?_
      refine r_aload_n dX8_way_7 rfl ?_
      refine r_get dX8_way_8 fX8_47 rfl rfl ?_
      refine r_get dX8_way_11 fX8_161 rfl rfl ?_
      refine r_aload_n dX8_way_14 rfl ?_
      refine r_get dX8_way_15 fX8_26 rfl rfl ?_
      refine r_pc 18 rfl ?_
      refine r_cV dX8_way_18 (s_latest hn) lX8_87 rfl rfl rfl (by decide) ⟨Nat.le_refl _, Nat.le_refl _⟩ (Nat.le_of_ble_eq_true rfl) ?_
      rw [hQn]
      refine r_lcmp dX8_way_21 ?_
      refine r_if_eq 39 dX8_way_22 (by decide) (fun h22 => ?_) (fun h22 => ?_)
      · refine r_pc 39 rfl ?_
        refine r_pc 39 rfl ?_
        exact T _ _ _ _ _ _ _ _ _ _ _ _ _ _ _ hwo
      · exact absurd ((lg_cmp_eq _ _).mpr rfl) h22
    · exact absurd (ge_m1.mpr (by decide)) h2
  · refine r_iload_n dX8_way_0 rfl ?_
    refine r_iconst (v := (-1)) dX8_way_1 (by decide) ?_
    refine r_icmp_ge 7 dX8_way_2 (by decide) (fun h2 => ?_) (fun h2 => ?_)
    · refine r_pc 7 rfl ?_
      refine r_aload_n dX8_way_7 rfl ?_
      refine r_get dX8_way_8 fX8_47 rfl rfl ?_
      refine r_get dX8_way_11 fX8_161 rfl rfl ?_
      refine r_aload_n dX8_way_14 rfl ?_
      refine r_get dX8_way_15 fX8_26 rfl rfl ?_
      refine r_pc 18 rfl ?_
      refine r_cV dX8_way_18 (s_latest hn) lX8_87 rfl rfl rfl (by decide) ⟨Nat.le_refl _, Nat.le_refl _⟩ (Nat.le_of_ble_eq_true rfl) ?_
      rw [hQn]
      refine r_lcmp dX8_way_21 ?_
      refine r_if_eq 39 dX8_way_22 (by decide) (fun h22 => ?_) (fun h22 => ?_)
      · exact absurd ((lg_cmp_eq _ _).mp h22) hq
      · refine r_pc 25 rfl ?_
        refine r_aload_n dX8_way_25 rfl ?_
        refine r_get dX8_way_26 fX8_47 rfl rfl ?_
        refine r_aload_n dX8_way_29 rfl ?_
        refine r_get dX8_way_30 fX8_26 rfl rfl ?_
        refine r_cV dX8_way_33 (s_latest hn) lX8_87 rfl rfl rfl (by decide) ⟨Nat.le_refl _, Nat.le_refl _⟩ (Nat.le_of_ble_eq_true rfl) ?_
        refine r_pc 36 rfl ?_
        refine r_pc 36 rfl ?_
        rw [hQn]
        refine r_cVP dX8_way_36 (s_search rfl hVn.1 hI) lX8_165 rfl rfl rfl (by decide) ⟨Nat.le_refl _, Nat.le_refl _⟩ (Nat.le_of_ble_eq_true rfl) (fun r w2 hp => ?_)
        obtain ⟨rfl, fc', ff', fs', ft', fu', fw', fy', fd', wr', wf', wb', wn', gz', wc', rfl, p1, p2⟩ := hp
        exact T _ _ _ _ _ _ _ _ _ _ _ _ _ _ _ ⟨rfl, p1, p2⟩
    · exact absurd (ge_m1.mpr (by decide)) h2
theorem c_way_n {i : Nat} (hI : ∀ q c q', Inj (sqc q) → c < 108 → nxC q c = some q' → Inj (sqc q')) (hC : CI L b n m cd Q ik kn kc kQ fn fr fz tal R w) (hi : i < 2 ^ 31) (h : ¬ (wayB nxC homeP (Q n)).1 = 0) : SemP mX8_way 7 0 0 [.ref 0, .int (nI i)] w (Top (wansI (wayB nxC homeP (Q n))) (CI L b n m cd Q ik kn kc kQ fn fr fz tal R)) := by
  obtain ⟨tb, tc, tn, fc, ff, fs, ft, fu, fw, fy, fd, dc, dp, dq, ec, ep, eq, em, lr, wr, wf, wb, wn, gz, wc, ws, wa, pw, pf, pl, ta, rfl, ⟨s1, s2, s3, s4, s5, s6⟩, hB, hdc, hdp, hec, hep, hlr, hta, hwo⟩ := hC
  have hn : n ≤ 200 := Nat.le_trans s3 s4.1
  have hm : m ≤ 200 := s4.1
  have hkn : kn ≤ 200 := s5.1
  have hQn : dp n = Q n := hdp n s3
  have hVn : Vq (Q n) := s4.2.2.1 n s3
  have hBy : By tb L b := ⟨s1, fun j hj => ⟨hB j hj, s2 j hj⟩⟩
  refine semP_of (by decide) (Nat.le_of_ble_eq_true rfl) rfl ?_
  generalize hw0 : (cW tb (nI L) tc tn fc ff fs ft fu fw fy fd dc dp dq (nI n) (nI m) ec ep eq (nI kn) em (bI ik) lr (nI fn) (fz) (homeP) wr wf wb wn gz wc ws wa pw pf pl ta, R) = w0
  have T : ∀ (fc ff fs ft fu fw : Nat → Int32) (fy fd : Int32) (wr : Nat → Int64) (wf wb : Nat → Int32) (wn : Int32) (gz : G8) (wc : Nat → Int32) (wa : Int32), WayOk (Q n) wa wc → Rp mX8_way 7 0 0 w0 (Top (wansI (wayB nxC homeP (Q n))) (CI L b n m cd Q ik kn kc kQ fn fr fz tal R)) 0 0 39 [some (.ref 0), some (.int (nI i))] [] (cW tb (nI L) tc tn fc ff fs ft fu fw fy fd dc dp dq (nI n) (nI m) ec ep eq (nI kn) em (bI ik) lr (nI fn) (fz) (homeP) wr wf wb wn gz wc (Q n) wa pw pf pl ta, R) := by
    intro fc ff fs ft fu fw fy fd wr wf wb wn gz wc wa hwo
    obtain ⟨o1, o2, o3⟩ := id hwo
    have hlt : wansI (wayB nxC homeP (Q n)) < 0 := by (unfold wansI; rw [if_neg h]; split <;> decide)
    rw [o1] at hwo ⊢
    refine r_aload_n dX8_way_39 rfl ?_
    refine r_get dX8_way_40 fX8_47 rfl rfl ?_
    refine r_get dX8_way_43 fX8_168 rfl rfl ?_
    refine r_if_lt 54 dX8_way_46 (by decide) (fun h46 => ?_) (fun h46 => ?_)
    · refine r_pc 54 rfl ?_
      refine r_aload_n dX8_way_54 rfl ?_
      refine r_get dX8_way_55 fX8_47 rfl rfl ?_
      refine r_get dX8_way_58 fX8_168 rfl rfl ?_
      exact r_iretP dX8_way_61 rfl ⟨rfl, _, _, _, _, _, _, _, _, _, _, _, _, _, _, _, _, _, _, _, _, _, _, _, _, _, _, _, _, _, _, _, rfl, ⟨⟨s1, s2, s3, s4, s5, s6⟩, hB, hdc, hdp, hec, hep, hlr, hta, hwo⟩⟩
    · exact absurd hlt h46
  subst hw0
  by_cases hq : ws = Q n
  · subst hq
    refine r_iload_n dX8_way_0 rfl ?_
    refine r_iconst (v := (-1)) dX8_way_1 (by decide) ?_
    refine r_icmp_ge 7 dX8_way_2 (by decide) (fun h2 => ?_) (fun h2 => ?_)
    · refine r_pc 7 rfl ?_
      refine r_aload_n dX8_way_7 rfl ?_
      refine r_get dX8_way_8 fX8_47 rfl rfl ?_
      refine r_get dX8_way_11 fX8_161 rfl rfl ?_
      refine r_aload_n dX8_way_14 rfl ?_
      refine r_get dX8_way_15 fX8_26 rfl rfl ?_
      refine r_pc 18 rfl ?_
      refine r_cV dX8_way_18 (s_latest hn) lX8_87 rfl rfl rfl (by decide) ⟨Nat.le_refl _, Nat.le_refl _⟩ (Nat.le_of_ble_eq_true rfl) ?_
      rw [hQn]
      refine r_lcmp dX8_way_21 ?_
      refine r_if_eq 39 dX8_way_22 (by decide) (fun h22 => ?_) (fun h22 => ?_)
      · refine r_pc 39 rfl ?_
        refine r_pc 39 rfl ?_
        exact T _ _ _ _ _ _ _ _ _ _ _ _ _ _ _ hwo
      · exact absurd ((lg_cmp_eq _ _).mpr rfl) h22
    · exact absurd (ge_m1.mpr (nI_ge_m1 _ (by omega))) h2
  · refine r_iload_n dX8_way_0 rfl ?_
    refine r_iconst (v := (-1)) dX8_way_1 (by decide) ?_
    refine r_icmp_ge 7 dX8_way_2 (by decide) (fun h2 => ?_) (fun h2 => ?_)
    · refine r_pc 7 rfl ?_
      refine r_aload_n dX8_way_7 rfl ?_
      refine r_get dX8_way_8 fX8_47 rfl rfl ?_
      refine r_get dX8_way_11 fX8_161 rfl rfl ?_
      refine r_aload_n dX8_way_14 rfl ?_
      refine r_get dX8_way_15 fX8_26 rfl rfl ?_
      refine r_pc 18 rfl ?_
      refine r_cV dX8_way_18 (s_latest hn) lX8_87 rfl rfl rfl (by decide) ⟨Nat.le_refl _, Nat.le_refl _⟩ (Nat.le_of_ble_eq_true rfl) ?_
      rw [hQn]
      refine r_lcmp dX8_way_21 ?_
      refine r_if_eq 39 dX8_way_22 (by decide) (fun h22 => ?_) (fun h22 => ?_)
      · exact absurd ((lg_cmp_eq _ _).mp h22) hq
      · refine r_pc 25 rfl ?_
        refine r_aload_n dX8_way_25 rfl ?_
        refine r_get dX8_way_26 fX8_47 rfl rfl ?_
        refine r_aload_n dX8_way_29 rfl ?_
        refine r_get dX8_way_30 fX8_26 rfl rfl ?_
        refine r_cV dX8_way_33 (s_latest hn) lX8_87 rfl rfl rfl (by decide) ⟨Nat.le_refl _, Nat.le_refl _⟩ (Nat.le_of_ble_eq_true rfl) ?_
        refine r_pc 36 rfl ?_
        refine r_pc 36 rfl ?_
        rw [hQn]
        refine r_cVP dX8_way_36 (s_search rfl hVn.1 hI) lX8_165 rfl rfl rfl (by decide) ⟨Nat.le_refl _, Nat.le_refl _⟩ (Nat.le_of_ble_eq_true rfl) (fun r w2 hp => ?_)
        obtain ⟨rfl, fc', ff', fs', ft', fu', fw', fy', fd', wr', wf', wb', wn', gz', wc', rfl, p1, p2⟩ := hp
        exact T _ _ _ _ _ _ _ _ _ _ _ _ _ _ _ ⟨rfl, p1, p2⟩
    · exact absurd (ge_m1.mpr (nI_ge_m1 _ (by omega))) h2
theorem c_way_1 {i : Nat} (hI : ∀ q c q', Inj (sqc q) → c < 108 → nxC q c = some q' → Inj (sqc q')) (hC : CI L b n m cd Q ik kn kc kQ fn fr fz tal R w) (h : (wayB nxC homeP (Q n)).1 = 0) (hi : i < (wayB nxC homeP (Q n)).2.length) (hi2 : i < 2 ^ 31) : SemP mX8_way 7 0 0 [.ref 0, .int (nI i)] w (Top (nI ((wayB nxC homeP (Q n)).2.getD i 0)) (CI L b n m cd Q ik kn kc kQ fn fr fz tal R)) := by
  obtain ⟨tb, tc, tn, fc, ff, fs, ft, fu, fw, fy, fd, dc, dp, dq, ec, ep, eq, em, lr, wr, wf, wb, wn, gz, wc, ws, wa, pw, pf, pl, ta, rfl, ⟨s1, s2, s3, s4, s5, s6⟩, hB, hdc, hdp, hec, hep, hlr, hta, hwo⟩ := hC
  have hn : n ≤ 200 := Nat.le_trans s3 s4.1
  have hm : m ≤ 200 := s4.1
  have hkn : kn ≤ 200 := s5.1
  have hQn : dp n = Q n := hdp n s3
  have hVn : Vq (Q n) := s4.2.2.1 n s3
  have hBy : By tb L b := ⟨s1, fun j hj => ⟨hB j hj, s2 j hj⟩⟩
  refine semP_of (by decide) (Nat.le_of_ble_eq_true rfl) rfl ?_
  generalize hw0 : (cW tb (nI L) tc tn fc ff fs ft fu fw fy fd dc dp dq (nI n) (nI m) ec ep eq (nI kn) em (bI ik) lr (nI fn) (fz) (homeP) wr wf wb wn gz wc ws wa pw pf pl ta, R) = w0
  have T : ∀ (fc ff fs ft fu fw : Nat → Int32) (fy fd : Int32) (wr : Nat → Int64) (wf wb : Nat → Int32) (wn : Int32) (gz : G8) (wc : Nat → Int32) (wa : Int32), WayOk (Q n) wa wc → Rp mX8_way 7 0 0 w0 (Top (nI ((wayB nxC homeP (Q n)).2.getD i 0)) (CI L b n m cd Q ik kn kc kQ fn fr fz tal R)) 0 0 39 [some (.ref 0), some (.int (nI i))] [] (cW tb (nI L) tc tn fc ff fs ft fu fw fy fd dc dp dq (nI n) (nI m) ec ep eq (nI kn) em (bI ik) lr (nI fn) (fz) (homeP) wr wf wb wn gz wc (Q n) wa pw pf pl ta, R) := by
    intro fc ff fs ft fu fw fy fd wr wf wb wn gz wc wa hwo
    obtain ⟨o1, o2, o3⟩ := id hwo
    have e0 : wansI (wayB nxC homeP (Q n)) = nI (wayB nxC homeP (Q n)).2.length := by (unfold wansI; rw [if_pos h])
    have o1' := o1
    rw [e0] at o1'
    subst o1'
    have e1 : wc i = nI ((wayB nxC homeP (Q n)).2.getD i 0) := o3 h i _ (by rw [List.getD_eq_getElem?_getD, List.getElem?_eq_getElem hi]; rfl)
    refine r_aload_n dX8_way_39 rfl ?_
    refine r_get dX8_way_40 fX8_47 rfl rfl ?_
    refine r_get dX8_way_43 fX8_168 rfl rfl ?_
    refine r_if_lt 54 dX8_way_46 (by decide) (fun h46 => ?_) (fun h46 => ?_)
    · exact absurd h46 (nI_pos (by omega))
    · refine r_pc 49 rfl ?_
      refine r_iload_n dX8_way_49 rfl ?_
      refine r_iconst (v := (-1)) dX8_way_50 (by decide) ?_
      refine r_icmp_ne 62 dX8_way_51 (by decide) (fun h51 => ?_) (fun h51 => ?_)
      · refine r_pc 62 rfl ?_
        refine r_iload_n dX8_way_62 rfl ?_
        refine r_aload_n dX8_way_63 rfl ?_
        refine r_get dX8_way_64 fX8_47 rfl rfl ?_
        refine r_get dX8_way_67 fX8_168 rfl rfl ?_
        refine r_icmp_geN 84 dX8_way_70 (by decide) (by omega) (by omega) (fun h70 => ?_) (fun h70 => ?_)
        · exact absurd h70 (by omega)
        · refine r_pc 73 rfl ?_
          refine r_aload_n dX8_way_73 rfl ?_
          refine r_get dX8_way_74 fX8_47 rfl rfl ?_
          refine r_iload_n dX8_way_77 rfl ?_
          refine r_cV dX8_way_78 (s_codeAtW o2 hi) lX8_171 rfl rfl rfl (by decide) ⟨Nat.le_refl _, Nat.le_refl _⟩ (Nat.le_of_ble_eq_true rfl) ?_
          rw [e1]
          refine r_goto 86 dX8_way_81 (by decide) ?_
          exact r_iretP dX8_way_86 rfl ⟨rfl, _, _, _, _, _, _, _, _, _, _, _, _, _, _, _, _, _, _, _, _, _, _, _, _, _, _, _, _, _, _, _, rfl, ⟨⟨s1, s2, s3, s4, s5, s6⟩, hB, hdc, hdp, hec, hep, hlr, hta, hwo⟩⟩
      · exact absurd h51 (nI_m1 (by omega))
  subst hw0
  by_cases hq : ws = Q n
  · subst hq
    refine r_iload_n dX8_way_0 rfl ?_
    refine r_iconst (v := (-1)) dX8_way_1 (by decide) ?_
    refine r_icmp_ge 7 dX8_way_2 (by decide) (fun h2 => ?_) (fun h2 => ?_)
    · refine r_pc 7 rfl ?_
      refine r_aload_n dX8_way_7 rfl ?_
      refine r_get dX8_way_8 fX8_47 rfl rfl ?_
      refine r_get dX8_way_11 fX8_161 rfl rfl ?_
      refine r_aload_n dX8_way_14 rfl ?_
      refine r_get dX8_way_15 fX8_26 rfl rfl ?_
      refine r_pc 18 rfl ?_
      refine r_cV dX8_way_18 (s_latest hn) lX8_87 rfl rfl rfl (by decide) ⟨Nat.le_refl _, Nat.le_refl _⟩ (Nat.le_of_ble_eq_true rfl) ?_
      rw [hQn]
      refine r_lcmp dX8_way_21 ?_
      refine r_if_eq 39 dX8_way_22 (by decide) (fun h22 => ?_) (fun h22 => ?_)
      · refine r_pc 39 rfl ?_
        refine r_pc 39 rfl ?_
        exact T _ _ _ _ _ _ _ _ _ _ _ _ _ _ _ hwo
      · exact absurd ((lg_cmp_eq _ _).mpr rfl) h22
    · exact absurd (ge_m1.mpr (nI_ge_m1 _ (by omega))) h2
  · refine r_iload_n dX8_way_0 rfl ?_
    refine r_iconst (v := (-1)) dX8_way_1 (by decide) ?_
    refine r_icmp_ge 7 dX8_way_2 (by decide) (fun h2 => ?_) (fun h2 => ?_)
    · refine r_pc 7 rfl ?_
      refine r_aload_n dX8_way_7 rfl ?_
      refine r_get dX8_way_8 fX8_47 rfl rfl ?_
      refine r_get dX8_way_11 fX8_161 rfl rfl ?_
      refine r_aload_n dX8_way_14 rfl ?_
      refine r_get dX8_way_15 fX8_26 rfl rfl ?_
      refine r_pc 18 rfl ?_
      refine r_cV dX8_way_18 (s_latest hn) lX8_87 rfl rfl rfl (by decide) ⟨Nat.le_refl _, Nat.le_refl _⟩ (Nat.le_of_ble_eq_true rfl) ?_
      rw [hQn]
      refine r_lcmp dX8_way_21 ?_
      refine r_if_eq 39 dX8_way_22 (by decide) (fun h22 => ?_) (fun h22 => ?_)
      · exact absurd ((lg_cmp_eq _ _).mp h22) hq
      · refine r_pc 25 rfl ?_
        refine r_aload_n dX8_way_25 rfl ?_
        refine r_get dX8_way_26 fX8_47 rfl rfl ?_
        refine r_aload_n dX8_way_29 rfl ?_
        refine r_get dX8_way_30 fX8_26 rfl rfl ?_
        refine r_cV dX8_way_33 (s_latest hn) lX8_87 rfl rfl rfl (by decide) ⟨Nat.le_refl _, Nat.le_refl _⟩ (Nat.le_of_ble_eq_true rfl) ?_
        refine r_pc 36 rfl ?_
        refine r_pc 36 rfl ?_
        rw [hQn]
        refine r_cVP dX8_way_36 (s_search rfl hVn.1 hI) lX8_165 rfl rfl rfl (by decide) ⟨Nat.le_refl _, Nat.le_refl _⟩ (Nat.le_of_ble_eq_true rfl) (fun r w2 hp => ?_)
        obtain ⟨rfl, fc', ff', fs', ft', fu', fw', fy', fd', wr', wf', wb', wn', gz', wc', rfl, p1, p2⟩ := hp
        exact T _ _ _ _ _ _ _ _ _ _ _ _ _ _ _ ⟨rfl, p1, p2⟩
    · exact absurd (ge_m1.mpr (nI_ge_m1 _ (by omega))) h2
theorem c_way_2 {i : Nat} (hI : ∀ q c q', Inj (sqc q) → c < 108 → nxC q c = some q' → Inj (sqc q')) (hC : CI L b n m cd Q ik kn kc kQ fn fr fz tal R w) (h : (wayB nxC homeP (Q n)).1 = 0) (hi : (wayB nxC homeP (Q n)).2.length ≤ i) (hi2 : i < 2 ^ 31) : SemP mX8_way 7 0 0 [.ref 0, .int (nI i)] w (Top (-2) (CI L b n m cd Q ik kn kc kQ fn fr fz tal R)) := by
  obtain ⟨tb, tc, tn, fc, ff, fs, ft, fu, fw, fy, fd, dc, dp, dq, ec, ep, eq, em, lr, wr, wf, wb, wn, gz, wc, ws, wa, pw, pf, pl, ta, rfl, ⟨s1, s2, s3, s4, s5, s6⟩, hB, hdc, hdp, hec, hep, hlr, hta, hwo⟩ := hC
  have hn : n ≤ 200 := Nat.le_trans s3 s4.1
  have hm : m ≤ 200 := s4.1
  have hkn : kn ≤ 200 := s5.1
  have hQn : dp n = Q n := hdp n s3
  have hVn : Vq (Q n) := s4.2.2.1 n s3
  have hBy : By tb L b := ⟨s1, fun j hj => ⟨hB j hj, s2 j hj⟩⟩
  refine semP_of (by decide) (Nat.le_of_ble_eq_true rfl) rfl ?_
  generalize hw0 : (cW tb (nI L) tc tn fc ff fs ft fu fw fy fd dc dp dq (nI n) (nI m) ec ep eq (nI kn) em (bI ik) lr (nI fn) (fz) (homeP) wr wf wb wn gz wc ws wa pw pf pl ta, R) = w0
  have T : ∀ (fc ff fs ft fu fw : Nat → Int32) (fy fd : Int32) (wr : Nat → Int64) (wf wb : Nat → Int32) (wn : Int32) (gz : G8) (wc : Nat → Int32) (wa : Int32), WayOk (Q n) wa wc → Rp mX8_way 7 0 0 w0 (Top (-2) (CI L b n m cd Q ik kn kc kQ fn fr fz tal R)) 0 0 39 [some (.ref 0), some (.int (nI i))] [] (cW tb (nI L) tc tn fc ff fs ft fu fw fy fd dc dp dq (nI n) (nI m) ec ep eq (nI kn) em (bI ik) lr (nI fn) (fz) (homeP) wr wf wb wn gz wc (Q n) wa pw pf pl ta, R) := by
    intro fc ff fs ft fu fw fy fd wr wf wb wn gz wc wa hwo
    obtain ⟨o1, o2, o3⟩ := id hwo
    have e0 : wansI (wayB nxC homeP (Q n)) = nI (wayB nxC homeP (Q n)).2.length := by (unfold wansI; rw [if_pos h])
    have o1' := o1
    rw [e0] at o1'
    subst o1'
    refine r_aload_n dX8_way_39 rfl ?_
    refine r_get dX8_way_40 fX8_47 rfl rfl ?_
    refine r_get dX8_way_43 fX8_168 rfl rfl ?_
    refine r_if_lt 54 dX8_way_46 (by decide) (fun h46 => ?_) (fun h46 => ?_)
    · exact absurd h46 (nI_pos (by omega))
    · refine r_pc 49 rfl ?_
      refine r_iload_n dX8_way_49 rfl ?_
      refine r_iconst (v := (-1)) dX8_way_50 (by decide) ?_
      refine r_icmp_ne 62 dX8_way_51 (by decide) (fun h51 => ?_) (fun h51 => ?_)
      · refine r_pc 62 rfl ?_
        refine r_iload_n dX8_way_62 rfl ?_
        refine r_aload_n dX8_way_63 rfl ?_
        refine r_get dX8_way_64 fX8_47 rfl rfl ?_
        refine r_get dX8_way_67 fX8_168 rfl rfl ?_
        refine r_icmp_geN 84 dX8_way_70 (by decide) (by omega) (by omega) (fun h70 => ?_) (fun h70 => ?_)
        · refine r_pc 84 rfl ?_
          refine r_bipush (v := (-2)) dX8_way_84 (by decide) ?_
          exact r_iretP dX8_way_86 rfl ⟨rfl, _, _, _, _, _, _, _, _, _, _, _, _, _, _, _, _, _, _, _, _, _, _, _, _, _, _, _, _, _, _, _, rfl, ⟨⟨s1, s2, s3, s4, s5, s6⟩, hB, hdc, hdp, hec, hep, hlr, hta, hwo⟩⟩
        · exact absurd h70 (by omega)
      · exact absurd h51 (nI_m1 (by omega))
  subst hw0
  by_cases hq : ws = Q n
  · subst hq
    refine r_iload_n dX8_way_0 rfl ?_
    refine r_iconst (v := (-1)) dX8_way_1 (by decide) ?_
    refine r_icmp_ge 7 dX8_way_2 (by decide) (fun h2 => ?_) (fun h2 => ?_)
    · refine r_pc 7 rfl ?_
      refine r_aload_n dX8_way_7 rfl ?_
      refine r_get dX8_way_8 fX8_47 rfl rfl ?_
      refine r_get dX8_way_11 fX8_161 rfl rfl ?_
      refine r_aload_n dX8_way_14 rfl ?_
      refine r_get dX8_way_15 fX8_26 rfl rfl ?_
      refine r_pc 18 rfl ?_
      refine r_cV dX8_way_18 (s_latest hn) lX8_87 rfl rfl rfl (by decide) ⟨Nat.le_refl _, Nat.le_refl _⟩ (Nat.le_of_ble_eq_true rfl) ?_
      rw [hQn]
      refine r_lcmp dX8_way_21 ?_
      refine r_if_eq 39 dX8_way_22 (by decide) (fun h22 => ?_) (fun h22 => ?_)
      · refine r_pc 39 rfl ?_
        refine r_pc 39 rfl ?_
        exact T _ _ _ _ _ _ _ _ _ _ _ _ _ _ _ hwo
      · exact absurd ((lg_cmp_eq _ _).mpr rfl) h22
    · exact absurd (ge_m1.mpr (nI_ge_m1 _ (by omega))) h2
  · refine r_iload_n dX8_way_0 rfl ?_
    refine r_iconst (v := (-1)) dX8_way_1 (by decide) ?_
    refine r_icmp_ge 7 dX8_way_2 (by decide) (fun h2 => ?_) (fun h2 => ?_)
    · refine r_pc 7 rfl ?_
      refine r_aload_n dX8_way_7 rfl ?_
      refine r_get dX8_way_8 fX8_47 rfl rfl ?_
      refine r_get dX8_way_11 fX8_161 rfl rfl ?_
      refine r_aload_n dX8_way_14 rfl ?_
      refine r_get dX8_way_15 fX8_26 rfl rfl ?_
      refine r_pc 18 rfl ?_
      refine r_cV dX8_way_18 (s_latest hn) lX8_87 rfl rfl rfl (by decide) ⟨Nat.le_refl _, Nat.le_refl _⟩ (Nat.le_of_ble_eq_true rfl) ?_
      rw [hQn]
      refine r_lcmp dX8_way_21 ?_
      refine r_if_eq 39 dX8_way_22 (by decide) (fun h22 => ?_) (fun h22 => ?_)
      · exact absurd ((lg_cmp_eq _ _).mp h22) hq
      · refine r_pc 25 rfl ?_
        refine r_aload_n dX8_way_25 rfl ?_
        refine r_get dX8_way_26 fX8_47 rfl rfl ?_
        refine r_aload_n dX8_way_29 rfl ?_
        refine r_get dX8_way_30 fX8_26 rfl rfl ?_
        refine r_cV dX8_way_33 (s_latest hn) lX8_87 rfl rfl rfl (by decide) ⟨Nat.le_refl _, Nat.le_refl _⟩ (Nat.le_of_ble_eq_true rfl) ?_
        refine r_pc 36 rfl ?_
        refine r_pc 36 rfl ?_
        rw [hQn]
        refine r_cVP dX8_way_36 (s_search rfl hVn.1 hI) lX8_165 rfl rfl rfl (by decide) ⟨Nat.le_refl _, Nat.le_refl _⟩ (Nat.le_of_ble_eq_true rfl) (fun r w2 hp => ?_)
        obtain ⟨rfl, fc', ff', fs', ft', fu', fw', fy', fd', wr', wf', wb', wn', gz', wc', rfl, p1, p2⟩ := hp
        exact T _ _ _ _ _ _ _ _ _ _ _ _ _ _ _ ⟨rfl, p1, p2⟩
    · exact absurd (ge_m1.mpr (nI_ge_m1 _ (by omega))) h2
theorem c_would_f {x : Nat} (hC : CI L b n m cd Q ik kn kc kQ fn fr fz tal R w) (h : (tx b L).1 = some x) (hx : x < 2 ^ 31) : SemP mX8_would 10 0 0 [.ref 0] w (Top (-100 - nI x) (CI (0) b n m cd Q ik kn kc kQ fn fr fz tal R)) := by
  obtain ⟨tb, tc, tn, fc, ff, fs, ft, fu, fw, fy, fd, dc, dp, dq, ec, ep, eq, em, lr, wr, wf, wb, wn, gz, wc, ws, wa, pw, pf, pl, ta, rfl, ⟨s1, s2, s3, s4, s5, s6⟩, hB, hdc, hdp, hec, hep, hlr, hta, hwo⟩ := hC
  have hn : n ≤ 200 := Nat.le_trans s3 s4.1
  have hm : m ≤ 200 := s4.1
  have hkn : kn ≤ 200 := s5.1
  have hQn : dp n = Q n := hdp n s3
  have hVn : Vq (Q n) := s4.2.2.1 n s3
  have hBy : By tb L b := ⟨s1, fun j hj => ⟨hB j hj, s2 j hj⟩⟩
  refine semP_of (by decide) (Nat.le_of_ble_eq_true rfl) rfl ?_
  refine r_aload_n dX8_would_0 rfl ?_
  refine r_get dX8_would_1 fX8_12 rfl rfl ?_
  refine r_cV dX8_would_4 (s_take hBy) lX8_70 rfl rfl rfl (by decide) ⟨Nat.le_refl _, Nat.le_refl _⟩ (Nat.le_of_ble_eq_true rfl) ?_
  rw [show (rtx b L 121 0 []).1 = some x from h]
  refine r_istore_n (ls' := [_, _]) dX8_would_7 (by decide) rfl ?_
  refine r_iload_n dX8_would_8 rfl ?_
  refine r_pc 9 rfl ?_
  refine r_iconst (v := (-1)) dX8_would_9 (by decide) ?_
  refine r_icmp_eq 18 dX8_would_10 (by decide) (fun h10 => ?_) (fun h10 => ?_)
  · exact absurd h10 (nI_m1 hx)
  · refine r_pc 13 rfl ?_
    refine r_bipush (v := (-100)) dX8_would_13 (by decide) ?_
    refine r_iload_n dX8_would_15 rfl ?_
    refine r_isub dX8_would_16 ?_
    exact r_iretP dX8_would_17 rfl ⟨rfl, _, _, _, _, _, _, _, _, _, _, _, _, _, _, _, _, _, _, _, _, _, _, _, _, _, _, _, _, _, _, _, rfl, ⟨⟨Nat.zero_le _, (fun j h => absurd h (Nat.not_lt_zero _)), s3, s4, s5, s6⟩, (fun j h => absurd h (Nat.not_lt_zero _)), hdc, hdp, hec, hep, hlr, hta, hwo⟩⟩
theorem c_would_b (hC : CI L b n m cd Q ik kn kc kQ fn fr fz tal R w) (h : (tx b L).1 = none) (h1 : ¬ (tx b L).2.length = 1) : SemP mX8_would 10 0 0 [.ref 0] w (Top (-1) (CI (0) b n m cd Q ik kn kc kQ fn fr fz tal R)) := by
  obtain ⟨tb, tc, tn, fc, ff, fs, ft, fu, fw, fy, fd, dc, dp, dq, ec, ep, eq, em, lr, wr, wf, wb, wn, gz, wc, ws, wa, pw, pf, pl, ta, rfl, ⟨s1, s2, s3, s4, s5, s6⟩, hB, hdc, hdp, hec, hep, hlr, hta, hwo⟩ := hC
  have hn : n ≤ 200 := Nat.le_trans s3 s4.1
  have hm : m ≤ 200 := s4.1
  have hkn : kn ≤ 200 := s5.1
  have hQn : dp n = Q n := hdp n s3
  have hVn : Vq (Q n) := s4.2.2.1 n s3
  have hBy : By tb L b := ⟨s1, fun j hj => ⟨hB j hj, s2 j hj⟩⟩
  refine semP_of (by decide) (Nat.le_of_ble_eq_true rfl) rfl ?_
  obtain ⟨t1, t2, t3⟩ := tx_ok s1 h
  have hr : (rtx b L 121 0 []).1 = none := h
  have t1 : (rtx b L 121 0 []).2.length ≤ 120 := t1
  refine r_aload_n dX8_would_0 rfl ?_
  refine r_get dX8_would_1 fX8_12 rfl rfl ?_
  refine r_cV dX8_would_4 (s_take hBy) lX8_70 rfl rfl rfl (by decide) ⟨Nat.le_refl _, Nat.le_refl _⟩ (Nat.le_of_ble_eq_true rfl) ?_
  rw [hr]
  refine r_istore_n (ls' := [_, _]) dX8_would_7 (by decide) rfl ?_
  refine r_iload_n dX8_would_8 rfl ?_
  refine r_pc 9 rfl ?_
  refine r_iconst (v := (-1)) dX8_would_9 (by decide) ?_
  refine r_icmp_eq 18 dX8_would_10 (by decide) (fun h10 => ?_) (fun h10 => ?_)
  · refine r_pc 18 rfl ?_
    refine r_aload_n dX8_would_18 rfl ?_
    refine r_get dX8_would_19 fX8_12 rfl rfl ?_
    refine r_get dX8_would_22 fX8_77 rfl rfl ?_
    refine r_iconst (v := (nI 1)) dX8_would_25 (by decide) ?_
    refine r_icmp_eqN 31 dX8_would_26 (by decide) (by omega) (by omega) (fun h26 => ?_) (fun h26 => ?_)
    · exact absurd h26 h1
    · refine r_pc 29 rfl ?_
      refine r_iconst (v := (-1)) dX8_would_29 (by decide) ?_
      exact r_iretP dX8_would_30 rfl ⟨rfl, _, _, _, _, _, _, _, _, _, _, _, _, _, _, _, _, _, _, _, _, _, _, _, _, _, _, _, _, _, _, _, rfl, ⟨⟨Nat.zero_le _, (fun j h => absurd h (Nat.not_lt_zero _)), s3, s4, s5, s6⟩, (fun j h => absurd h (Nat.not_lt_zero _)), hdc, hdp, hec, hep, hlr, hta, hwo⟩⟩
  · exact absurd rfl h10
theorem c_would_1 (hC : CI L b n m cd Q ik kn kc kQ fn fr fz tal R w) (h : (tx b L).1 = none) (h1 : (tx b L).2.length = 1) (hp : POK (sqc (Q n)) (sqf (Q n)) ((tx b L).2.getD 0 0 / 100) ((tx b L).2.getD 0 0 % 100) = true) : SemP mX8_would 10 0 0 [.ref 0] w (Top (nI (PN (sqc (Q n)) (sqf (Q n)) ((tx b L).2.getD 0 0 / 100) ((tx b L).2.getD 0 0 % 100))) (CI (0) b n m cd Q ik kn kc kQ fn fr fz tal R)) := by
  obtain ⟨tb, tc, tn, fc, ff, fs, ft, fu, fw, fy, fd, dc, dp, dq, ec, ep, eq, em, lr, wr, wf, wb, wn, gz, wc, ws, wa, pw, pf, pl, ta, rfl, ⟨s1, s2, s3, s4, s5, s6⟩, hB, hdc, hdp, hec, hep, hlr, hta, hwo⟩ := hC
  have hn : n ≤ 200 := Nat.le_trans s3 s4.1
  have hm : m ≤ 200 := s4.1
  have hkn : kn ≤ 200 := s5.1
  have hQn : dp n = Q n := hdp n s3
  have hVn : Vq (Q n) := s4.2.2.1 n s3
  have hBy : By tb L b := ⟨s1, fun j hj => ⟨hB j hj, s2 j hj⟩⟩
  refine semP_of (by decide) (Nat.le_of_ble_eq_true rfl) rfl ?_
  obtain ⟨t1, t2, t3⟩ := tx_ok s1 h
  have hr : (rtx b L 121 0 []).1 = none := h
  have h1' : (rtx b L 121 0 []).2.length = 1 := h1
  have hx := t3 _ (getD_mem (j := 0) (by omega))
  have e0 : putL tc (rtx b L 121 0 []).2 0 = nI (100 * ((tx b L).2.getD 0 0 / 100) + (tx b L).2.getD 0 0 % 100) := by rw [← code_eq]; exact putL_at tc (by omega)
  refine r_aload_n dX8_would_0 rfl ?_
  refine r_get dX8_would_1 fX8_12 rfl rfl ?_
  refine r_cV dX8_would_4 (s_take hBy) lX8_70 rfl rfl rfl (by decide) ⟨Nat.le_refl _, Nat.le_refl _⟩ (Nat.le_of_ble_eq_true rfl) ?_
  rw [hr, h1']
  refine r_istore_n (ls' := [_, _]) dX8_would_7 (by decide) rfl ?_
  refine r_iload_n dX8_would_8 rfl ?_
  refine r_pc 9 rfl ?_
  refine r_iconst (v := (-1)) dX8_would_9 (by decide) ?_
  refine r_icmp_eq 18 dX8_would_10 (by decide) (fun h10 => ?_) (fun h10 => ?_)
  · refine r_pc 18 rfl ?_
    refine r_aload_n dX8_would_18 rfl ?_
    refine r_get dX8_would_19 fX8_12 rfl rfl ?_
    refine r_get dX8_would_22 fX8_77 rfl rfl ?_
    refine r_iconst (v := (nI 1)) dX8_would_25 (by decide) ?_
    refine r_icmp_eqN 31 dX8_would_26 (by decide) (by omega) (by omega) (fun h26 => ?_) (fun h26 => ?_)
    · refine r_pc 31 rfl ?_
      refine r_aload_n dX8_would_31 rfl ?_
      refine r_get dX8_would_32 fX8_19 rfl rfl ?_
      refine r_aload_n dX8_would_35 rfl ?_
      refine r_get dX8_would_36 fX8_26 rfl rfl ?_
      refine r_cV dX8_would_39 (s_latest hn) lX8_87 rfl rfl rfl (by decide) ⟨Nat.le_refl _, Nat.le_refl _⟩ (Nat.le_of_ble_eq_true rfl) ?_
      refine r_pc 42 rfl ?_
      rw [hQn]
      refine r_cVv dX8_would_42 (s_load _) lX8_91 rfl rfl rfl (by decide) ⟨Nat.le_refl _, Nat.le_refl _⟩ (Nat.le_of_ble_eq_true rfl) ?_
      refine r_aload_n dX8_would_45 rfl ?_
      refine r_get dX8_would_46 fX8_19 rfl rfl ?_
      refine r_aload_n dX8_would_49 rfl ?_
      refine r_get dX8_would_50 fX8_12 rfl rfl ?_
      refine r_pc 53 rfl ?_
      refine r_iconst (v := (nI 0)) dX8_would_53 (by decide) ?_
      refine r_cV dX8_would_54 (s_codeAtT (n := 1) (by decide) (by decide)) lX8_83 rfl rfl rfl (by decide) ⟨Nat.le_refl _, Nat.le_refl _⟩ (Nat.le_of_ble_eq_true rfl) ?_
      refine r_topi _ e0 ?_
      refine r_cV dX8_would_57 (s_plan hx.1 hx.2 (Sq_load _) (Sd_load _) hVn.1) lX8_95 rfl rfl rfl (by decide) ⟨Nat.le_refl _, Nat.le_refl _⟩ (Nat.le_of_ble_eq_true rfl) ?_
      rw [hp]
      refine r_if_eq 73 dX8_would_60 (by decide) (fun h60 => ?_) (fun h60 => ?_)
      · exact absurd h60 (by decide)
      · refine r_pc 63 rfl ?_
        refine r_aload_n dX8_would_63 rfl ?_
        refine r_get dX8_would_64 fX8_19 rfl rfl ?_
        refine r_get dX8_would_67 fX8_123 rfl rfl ?_
        refine r_goto 75 dX8_would_70 (by decide) ?_
        exact r_iretP dX8_would_75 rfl ⟨rfl, _, _, _, _, _, _, _, _, _, _, _, _, _, _, _, _, _, _, _, _, _, _, _, _, _, _, _, _, _, _, _, rfl, ⟨⟨Nat.zero_le _, (fun j h => absurd h (Nat.not_lt_zero _)), s3, s4, s5, s6⟩, (fun j h => absurd h (Nat.not_lt_zero _)), hdc, hdp, hec, hep, hlr, hta, hwo⟩⟩
    · exact absurd rfl h26
  · exact absurd rfl h10
theorem c_would_0 (hC : CI L b n m cd Q ik kn kc kQ fn fr fz tal R w) (h : (tx b L).1 = none) (h1 : (tx b L).2.length = 1) (hp : POK (sqc (Q n)) (sqf (Q n)) ((tx b L).2.getD 0 0 / 100) ((tx b L).2.getD 0 0 % 100) = false) : SemP mX8_would 10 0 0 [.ref 0] w (Top (-2) (CI (0) b n m cd Q ik kn kc kQ fn fr fz tal R)) := by
  obtain ⟨tb, tc, tn, fc, ff, fs, ft, fu, fw, fy, fd, dc, dp, dq, ec, ep, eq, em, lr, wr, wf, wb, wn, gz, wc, ws, wa, pw, pf, pl, ta, rfl, ⟨s1, s2, s3, s4, s5, s6⟩, hB, hdc, hdp, hec, hep, hlr, hta, hwo⟩ := hC
  have hn : n ≤ 200 := Nat.le_trans s3 s4.1
  have hm : m ≤ 200 := s4.1
  have hkn : kn ≤ 200 := s5.1
  have hQn : dp n = Q n := hdp n s3
  have hVn : Vq (Q n) := s4.2.2.1 n s3
  have hBy : By tb L b := ⟨s1, fun j hj => ⟨hB j hj, s2 j hj⟩⟩
  refine semP_of (by decide) (Nat.le_of_ble_eq_true rfl) rfl ?_
  obtain ⟨t1, t2, t3⟩ := tx_ok s1 h
  have hr : (rtx b L 121 0 []).1 = none := h
  have h1' : (rtx b L 121 0 []).2.length = 1 := h1
  have hx := t3 _ (getD_mem (j := 0) (by omega))
  have e0 : putL tc (rtx b L 121 0 []).2 0 = nI (100 * ((tx b L).2.getD 0 0 / 100) + (tx b L).2.getD 0 0 % 100) := by rw [← code_eq]; exact putL_at tc (by omega)
  refine r_aload_n dX8_would_0 rfl ?_
  refine r_get dX8_would_1 fX8_12 rfl rfl ?_
  refine r_cV dX8_would_4 (s_take hBy) lX8_70 rfl rfl rfl (by decide) ⟨Nat.le_refl _, Nat.le_refl _⟩ (Nat.le_of_ble_eq_true rfl) ?_
  rw [hr, h1']
  refine r_istore_n (ls' := [_, _]) dX8_would_7 (by decide) rfl ?_
  refine r_iload_n dX8_would_8 rfl ?_
  refine r_pc 9 rfl ?_
  refine r_iconst (v := (-1)) dX8_would_9 (by decide) ?_
  refine r_icmp_eq 18 dX8_would_10 (by decide) (fun h10 => ?_) (fun h10 => ?_)
  · refine r_pc 18 rfl ?_
    refine r_aload_n dX8_would_18 rfl ?_
    refine r_get dX8_would_19 fX8_12 rfl rfl ?_
    refine r_get dX8_would_22 fX8_77 rfl rfl ?_
    refine r_iconst (v := (nI 1)) dX8_would_25 (by decide) ?_
    refine r_icmp_eqN 31 dX8_would_26 (by decide) (by omega) (by omega) (fun h26 => ?_) (fun h26 => ?_)
    · refine r_pc 31 rfl ?_
      refine r_aload_n dX8_would_31 rfl ?_
      refine r_get dX8_would_32 fX8_19 rfl rfl ?_
      refine r_aload_n dX8_would_35 rfl ?_
      refine r_get dX8_would_36 fX8_26 rfl rfl ?_
      refine r_cV dX8_would_39 (s_latest hn) lX8_87 rfl rfl rfl (by decide) ⟨Nat.le_refl _, Nat.le_refl _⟩ (Nat.le_of_ble_eq_true rfl) ?_
      refine r_pc 42 rfl ?_
      rw [hQn]
      refine r_cVv dX8_would_42 (s_load _) lX8_91 rfl rfl rfl (by decide) ⟨Nat.le_refl _, Nat.le_refl _⟩ (Nat.le_of_ble_eq_true rfl) ?_
      refine r_aload_n dX8_would_45 rfl ?_
      refine r_get dX8_would_46 fX8_19 rfl rfl ?_
      refine r_aload_n dX8_would_49 rfl ?_
      refine r_get dX8_would_50 fX8_12 rfl rfl ?_
      refine r_pc 53 rfl ?_
      refine r_iconst (v := (nI 0)) dX8_would_53 (by decide) ?_
      refine r_cV dX8_would_54 (s_codeAtT (n := 1) (by decide) (by decide)) lX8_83 rfl rfl rfl (by decide) ⟨Nat.le_refl _, Nat.le_refl _⟩ (Nat.le_of_ble_eq_true rfl) ?_
      refine r_topi _ e0 ?_
      refine r_cV dX8_would_57 (s_plan hx.1 hx.2 (Sq_load _) (Sd_load _) hVn.1) lX8_95 rfl rfl rfl (by decide) ⟨Nat.le_refl _, Nat.le_refl _⟩ (Nat.le_of_ble_eq_true rfl) ?_
      rw [hp]
      refine r_if_eq 73 dX8_would_60 (by decide) (fun h60 => ?_) (fun h60 => ?_)
      · refine r_pc 73 rfl ?_
        refine r_bipush (v := (-2)) dX8_would_73 (by decide) ?_
        exact r_iretP dX8_would_75 rfl ⟨rfl, _, _, _, _, _, _, _, _, _, _, _, _, _, _, _, _, _, _, _, _, _, _, _, _, _, _, _, _, _, _, _, rfl, ⟨⟨Nat.zero_le _, (fun j h => absurd h (Nat.not_lt_zero _)), s3, s4, s5, s6⟩, (fun j h => absurd h (Nat.not_lt_zero _)), hdc, hdp, hec, hep, hlr, hta, hwo⟩⟩
      · exact absurd rfl h60
    · exact absurd rfl h26
  · exact absurd rfl h10
end C6
