/-! ===== dance ===== -/
/-- the dance while a text is danced: calls, calls with undone, numbers, squares, tally -/
abbrev DS : Type := Nat × Nat × (Nat → Nat) × (Nat → Int64) × (Nat → Int32)
def dstep (x : Nat) (q' : Int64) (S : DS) : DS := (S.1 + 1, S.1 + 1, up S.2.2.1 S.1 x, up S.2.2.2.1 (S.1 + 1) q', upd S.2.2.2.2 (x % 100) (S.2.2.2.2 (x % 100) + nI 1))
/-- how many of the calls are danced, and the dance then -/
def dgo : List Nat → Nat → DS → Nat × DS
  | [], k, S => (k, S)
  | x :: t, k, S => match nxC (S.2.2.2.1 S.1) (cnr x) with
    | none => (k, S)
    | some q' => dgo t (k + 1) (dstep x q' S)
/-- why a call falls: of whom -/
def fwv (q : Int64) (x : Nat) : Nat → Nat := PW (sqc q) (sqf q) (x / 100) (x % 100)
def fN (q : Int64) (x : Nat) : Nat := cnt (wvb (fwv q x)) 8
def fR (q : Int64) (x : Nat) : Nat → Int32 := nrw (fwv q x) (fun _ => 0) 8
def fY (q : Int64) (x : Nat) : Int32 := nI (PY (sqc q) (sqf q) (x / 100) (x % 100))
theorem nrw_ext {wv : Nat → Nat} {lr lr' : Nat → Int32} : ∀ i j, j < cnt (wvb wv) i → nrw wv lr i j = nrw wv lr' i j
  | 0, j, h => absurd h (Nat.not_lt_zero _)
  | i + 1, j, h => by
    unfold cnt at h
    unfold nrw
    cases hb : wvb wv i with
    | true =>
      rw [hb] at h
      dsimp only at h ⊢
      by_cases e : j = cnt (wvb wv) i
      · rw [e, pk_us, pk_us]
      · rw [pk_un e, pk_un e]
        exact nrw_ext i j (by omega)
    | false =>
      rw [hb] at h
      exact nrw_ext i j h
theorem PW_lt (c f : Nat → Nat) (w g j : Nat) : PW c f w g j < 10 := by
  unfold PW
  split
  · have := wy_lt c (PT c f w g) j; omega
  · decide
section C9
variable {R : List AE} {w : WD} {L : Nat} {b : Nat → Nat} {n m : Nat} {cd : Nat → Nat} {Q : Nat → Int64} {ik : Bool} {kn : Nat} {kc : Nat → Nat} {kQ : Nat → Int64} {fn : Nat} {fr : Nat → Int32} {fz : Int32} {tal : Nat → Int32}
theorem c_dance_f {x : Nat} (hC : CI L b n m cd Q ik kn kc kQ fn fr fz tal R w) (h : (tx b L).1 = some x) (hx : x < 2 ^ 31) : SemP mX8_dance 10 0 0 [.ref 0] w (Top (-100 - nI x) (CI (0) b n m cd Q ik kn kc kQ fn fr fz tal R)) := by
  obtain ⟨tb, tc, tn, fc, ff, fs, ft, fu, fw, fy, fd, dc, dp, dq, ec, ep, eq, em, lr, wr, wf, wb, wn, gz, wc, ws, wa, pw, pf, pl, ta, rfl, ⟨s1, s2, s3, s4, s5, s6⟩, hB, hdc, hdp, hec, hep, hlr, hta, hwo⟩ := hC
  have hn : n ≤ 200 := Nat.le_trans s3 s4.1
  have hm : m ≤ 200 := s4.1
  have hkn : kn ≤ 200 := s5.1
  have hQn : dp n = Q n := hdp n s3
  have hVn : Vq (Q n) := s4.2.2.1 n s3
  have hBy : By tb L b := ⟨s1, fun j hj => ⟨hB j hj, s2 j hj⟩⟩
  refine semP_of (by decide) (Nat.le_of_ble_eq_true rfl) rfl ?_
  refine r_aload_n dX8_dance_0 rfl ?_
  refine r_get dX8_dance_1 fX8_12 rfl rfl ?_
  refine r_cV dX8_dance_4 (s_take hBy) lX8_70 rfl rfl rfl (by decide) ⟨Nat.le_refl _, Nat.le_refl _⟩ (Nat.le_of_ble_eq_true rfl) ?_
  rw [show (rtx b L 121 0 []).1 = some x from h]
  refine r_istore_n (ls' := [_, _, _, _]) dX8_dance_7 (by decide) rfl ?_
  refine r_iload_n dX8_dance_8 rfl ?_
  refine r_pc 9 rfl ?_
  refine r_iconst (v := (-1)) dX8_dance_9 (by decide) ?_
  refine r_icmp_eq 18 dX8_dance_10 (by decide) (fun h10 => ?_) (fun h10 => ?_)
  · exact absurd h10 (nI_m1 hx)
  · refine r_pc 13 rfl ?_
    refine r_bipush (v := (-100)) dX8_dance_13 (by decide) ?_
    refine r_iload_n dX8_dance_15 rfl ?_
    refine r_isub dX8_dance_16 ?_
    exact r_iretP dX8_dance_17 rfl ⟨rfl, _, _, _, _, _, _, _, _, _, _, _, _, _, _, _, _, _, _, _, _, _, _, _, _, _, _, _, _, _, _, _, rfl, ⟨⟨Nat.zero_le _, (fun j h => absurd h (Nat.not_lt_zero _)), s3, s4, s5, s6⟩, (fun j h => absurd h (Nat.not_lt_zero _)), hdc, hdp, hec, hep, hlr, hta, hwo⟩⟩
theorem c_dance_l (hC : CI L b n m cd Q ik kn kc kQ fn fr fz tal R w) (h : (tx b L).1 = none) (hl : 200 < n + (tx b L).2.length) : SemP mX8_dance 10 0 0 [.ref 0] w (Top (-3) (CI (0) b n m cd Q ik kn kc kQ fn fr fz tal R)) := by
  obtain ⟨tb, tc, tn, fc, ff, fs, ft, fu, fw, fy, fd, dc, dp, dq, ec, ep, eq, em, lr, wr, wf, wb, wn, gz, wc, ws, wa, pw, pf, pl, ta, rfl, ⟨s1, s2, s3, s4, s5, s6⟩, hB, hdc, hdp, hec, hep, hlr, hta, hwo⟩ := hC
  have hn : n ≤ 200 := Nat.le_trans s3 s4.1
  have hm : m ≤ 200 := s4.1
  have hkn : kn ≤ 200 := s5.1
  have hQn : dp n = Q n := hdp n s3
  have hVn : Vq (Q n) := s4.2.2.1 n s3
  have hBy : By tb L b := ⟨s1, fun j hj => ⟨hB j hj, s2 j hj⟩⟩
  refine semP_of (by decide) (Nat.le_of_ble_eq_true rfl) rfl ?_
  obtain ⟨t1, t2, t3⟩ := tx_ok s1 h
  have hr : (rtx b L 121 0 []).1 = none := h
  have t1 : (rtx b L 121 0 []).2.length ≤ 120 := t1
  have hl : 200 < n + (rtx b L 121 0 []).2.length := hl
  refine r_aload_n dX8_dance_0 rfl ?_
  refine r_get dX8_dance_1 fX8_12 rfl rfl ?_
  refine r_cV dX8_dance_4 (s_take hBy) lX8_70 rfl rfl rfl (by decide) ⟨Nat.le_refl _, Nat.le_refl _⟩ (Nat.le_of_ble_eq_true rfl) ?_
  rw [hr]
  refine r_istore_n (ls' := [_, _, _, _]) dX8_dance_7 (by decide) rfl ?_
  refine r_iload_n dX8_dance_8 rfl ?_
  refine r_pc 9 rfl ?_
  refine r_iconst (v := (-1)) dX8_dance_9 (by decide) ?_
  refine r_icmp_eq 18 dX8_dance_10 (by decide) (fun h10 => ?_) (fun h10 => ?_)
  · refine r_pc 18 rfl ?_
    refine r_aload_n dX8_dance_18 rfl ?_
    refine r_get dX8_dance_19 fX8_26 rfl rfl ?_
    refine r_get dX8_dance_22 fX8_74 rfl rfl ?_
    refine r_aload_n dX8_dance_25 rfl ?_
    refine r_get dX8_dance_26 fX8_12 rfl rfl ?_
    refine r_pc 29 rfl ?_
    refine r_get dX8_dance_29 fX8_77 rfl rfl ?_
    refine r_iaddN dX8_dance_32 ?_
    refine r_sipush (v := (nI 200)) dX8_dance_33 (by decide) ?_
    refine r_icmp_leN 42 dX8_dance_36 (by decide) (by omega) (by omega) (fun h36 => ?_) (fun h36 => ?_)
    · exact absurd h36 (by omega)
    · refine r_pc 39 rfl ?_
      refine r_bipush (v := (-3)) dX8_dance_39 (by decide) ?_
      exact r_iretP dX8_dance_41 rfl ⟨rfl, _, _, _, _, _, _, _, _, _, _, _, _, _, _, _, _, _, _, _, _, _, _, _, _, _, _, _, _, _, _, _, rfl, ⟨⟨Nat.zero_le _, (fun j h => absurd h (Nat.not_lt_zero _)), s3, s4, s5, s6⟩, (fun j h => absurd h (Nat.not_lt_zero _)), hdc, hdp, hec, hep, hlr, hta, hwo⟩⟩
  · exact absurd rfl h10
/-- what dance leaves when k of the calls l were danced: all, or the next one falls -/
def DP (l : List Nat) (r : Nat × DS) (kn : Nat) (kc : Nat → Nat) (kQ : Nat → Int64) (b : Nat → Nat) (ik : Bool) (fr : Nat → Int32) (R : List AE) : WD → Prop :=
  if r.1 < l.length then CI 0 b r.2.1 r.2.2.1 r.2.2.2.1 r.2.2.2.2.1 ik kn kc kQ (fN (r.2.2.2.2.1 r.2.1) (l.getD r.1 0)) (fR (r.2.2.2.2.1 r.2.1) (l.getD r.1 0)) (fY (r.2.2.2.2.1 r.2.1) (l.getD r.1 0)) r.2.2.2.2.2 R
  else CI 0 b r.2.1 r.2.2.1 r.2.2.2.1 r.2.2.2.2.1 ik kn kc kQ 0 fr (nI 0) r.2.2.2.2.2 R
theorem c_dance_1 (hV : NXV) (hC : CI L b n m cd Q ik kn kc kQ fn fr fz tal R w) (h : (tx b L).1 = none) (hl : n + (tx b L).2.length ≤ 200) : SemP mX8_dance 10 0 0 [.ref 0] w (Top (nI (dgo (tx b L).2 0 (n, m, cd, Q, tal)).1) (DP (tx b L).2 (dgo (tx b L).2 0 (n, m, cd, Q, tal)) kn kc kQ b ik fr R)) := by
  obtain ⟨tb, tc, tn, fc, ff, fs, ft, fu, fw, fy, fd, dc, dp, dq, ec, ep, eq, em, lr, wr, wf, wb, wn, gz, wc, ws, wa, pw, pf, pl, ta, rfl, ⟨s1, s2, s3, s4, s5, s6⟩, hB, hdc, hdp, hec, hep, hlr, hta, hwo⟩ := hC
  have hn : n ≤ 200 := Nat.le_trans s3 s4.1
  have hm : m ≤ 200 := s4.1
  have hkn : kn ≤ 200 := s5.1
  have hQn : dp n = Q n := hdp n s3
  have hVn : Vq (Q n) := s4.2.2.1 n s3
  have hBy : By tb L b := ⟨s1, fun j hj => ⟨hB j hj, s2 j hj⟩⟩
  refine semP_of (by decide) (Nat.le_of_ble_eq_true rfl) rfl ?_
  obtain ⟨t1, t2, t3⟩ := tx_ok s1 h
  have hr : (rtx b L 121 0 []).1 = none := h
  generalize hlt : (tx b L).2 = l at t1 t2 t3 hl
  have hl2 : (rtx b L 121 0 []).2 = l := hlt
  generalize hw0 : (cW tb (nI L) tc tn fc ff fs ft fu fw fy fd dc dp dq (nI n) (nI m) ec ep eq (nI kn) em (bI ik) lr (nI fn) (fz) (homeP) wr wf wb wn gz wc ws wa pw pf pl ta, R) = w0
  have Lp : ∀ (t : List Nat) (i n m : Nat) (cd : Nat → Nat) (Q : Nat → Int64) (tal : Nat → Int32) (fc ff fs ft fu fw : Nat → Int32) (fy fd : Int32) (dc : Nat → Int32) (dp : Nat → Int64) (ta : Nat → Int32) (y3 : Option Value), i + t.length = l.length → t = l.drop i → n + t.length ≤ 200 → n ≤ m → Dn m cd Q → (∀ j, j < m → dc j = nI (cd j)) → (∀ j, j ≤ m → dp j = Q j) → (∀ j, j < 12 → ta j = tal j) → Rp mX8_dance 10 0 0 w0 (Top (nI (dgo t i (n, m, cd, Q, tal)).1) (DP l (dgo t i (n, m, cd, Q, tal)) kn kc kQ b ik fr R)) 0 0 51 [some (.ref 0), some (.int (-1)), some (.int (nI i)), y3] [] (cW tb (nI 0) (putL tc l) (nI l.length) fc ff fs ft fu fw fy fd dc dp dq (nI n) (nI m) ec ep eq (nI kn) em (bI ik) lr (nI 0) (nI 0) (homeP) wr wf wb wn gz wc ws wa pw pf pl ta, R) := by
    intro t
    induction t with
    | nil =>
      intro i n m cd Q tal fc ff fs ft fu fw fy fd dc dp ta y3 hi ht hnl s3 s4 hdc hdp hta
      have hi : i = l.length := by simpa using hi
      subst hi
      refine r_iload_n dX8_dance_51 rfl ?_
      refine r_aload_n dX8_dance_52 rfl ?_
      refine r_get dX8_dance_53 fX8_12 rfl rfl ?_
      refine r_get dX8_dance_56 fX8_77 rfl rfl ?_
      refine r_icmp_geN 135 dX8_dance_59 (by decide) (by omega) (by omega) (fun h59 => ?_) (fun h59 => ?_)
      · refine r_pc 135 rfl ?_
        refine r_aload_n dX8_dance_135 rfl ?_
        refine r_get dX8_dance_136 fX8_12 rfl rfl ?_
        refine r_get dX8_dance_139 fX8_77 rfl rfl ?_
        exact r_iretP dX8_dance_142 rfl ⟨rfl, by show DP l (l.length, (n, m, cd, Q, tal)) kn kc kQ b ik fr R _; rw [DP, if_neg (Nat.lt_irrefl _)]; exact ⟨_, _, _, _, _, _, _, _, _, _, _, _, _, _, _, _, _, _, _, _, _, _, _, _, _, _, _, _, _, _, _, rfl, ⟨⟨Nat.zero_le _, (fun j h => absurd h (Nat.not_lt_zero _)), s3, s4, s5, Nat.zero_le _⟩, (fun j h => absurd h (Nat.not_lt_zero _)), hdc, hdp, hec, hep, (fun j h => absurd h (Nat.not_lt_zero _)), hta, hwo⟩⟩⟩
      · exact absurd h59 (by omega)
    | cons x t ih =>
      intro i n m cd Q tal fc ff fs ft fu fw fy fd dc dp ta y3 hi ht hnl s3 s4 hdc hdp hta
      rw [List.length_cons] at hi hnl
      have hil : i < l.length := by omega
      have hx : l.getD i 0 = x := by
        have : l[i]? = some x := by rw [← List.head?_drop, ← ht]; rfl
        rw [List.getD_eq_getElem?_getD, this]; rfl
      have hcx := t3 _ (getD_mem hil)
      rw [hx] at hcx
      have e0 : putL tc l i = nI (100 * (x / 100) + x % 100) := by rw [putL_at tc hil, hx, ← code_eq]
      have hnx := nxC_at (q := Q n) hcx
      have hQn : dp n = Q n := hdp n s3
      have hVn : Vq (Q n) := s4.2.2.1 n s3
      have hm := s4.1
      rw [show dgo (x :: t) i (n, m, cd, Q, tal) = (match nxC (Q n) (cnr x) with | none => (i, (n, m, cd, Q, tal)) | some q' => dgo t (i + 1) (dstep x q' (n, m, cd, Q, tal))) from rfl]
      cases ho : POK (sqc (Q n)) (sqf (Q n)) (x / 100) (x % 100) with
      | false =>
        rw [ho] at hnx
        dsimp only at hnx
        rw [hnx]
        dsimp only
        have hcn := cnt_le (wvb (fwv (Q n) x)) 8
        refine r_iload_n dX8_dance_51 rfl ?_
        refine r_aload_n dX8_dance_52 rfl ?_
        refine r_get dX8_dance_53 fX8_12 rfl rfl ?_
        refine r_get dX8_dance_56 fX8_77 rfl rfl ?_
        refine r_icmp_geN 135 dX8_dance_59 (by decide) (by omega) (by omega) (fun h59 => ?_) (fun h59 => ?_)
        · exact absurd h59 (by omega)
        · refine r_pc 62 rfl ?_
          refine r_aload_n dX8_dance_62 rfl ?_
          refine r_get dX8_dance_63 fX8_12 rfl rfl ?_
          refine r_iload_n dX8_dance_66 rfl ?_
          refine r_cV dX8_dance_67 (s_codeAtT (by omega) hil) lX8_83 rfl rfl rfl (by decide) ⟨Nat.le_refl _, Nat.le_refl _⟩ (Nat.le_of_ble_eq_true rfl) ?_
          refine r_topi _ e0 ?_
          refine r_istore_n (ls' := [_, _, _, _]) dX8_dance_70 (by decide) rfl ?_
          refine r_pc 71 rfl ?_
          refine r_aload_n dX8_dance_71 rfl ?_
          refine r_get dX8_dance_72 fX8_19 rfl rfl ?_
          refine r_aload_n dX8_dance_75 rfl ?_
          refine r_get dX8_dance_76 fX8_26 rfl rfl ?_
          refine r_cV dX8_dance_79 (s_latest (by omega)) lX8_87 rfl rfl rfl (by decide) ⟨Nat.le_refl _, Nat.le_refl _⟩ (Nat.le_of_ble_eq_true rfl) ?_
          refine r_pc 82 rfl ?_
          rw [hQn]
          refine r_cVv dX8_dance_82 (s_load _) lX8_91 rfl rfl rfl (by decide) ⟨Nat.le_refl _, Nat.le_refl _⟩ (Nat.le_of_ble_eq_true rfl) ?_
          refine r_aload_n dX8_dance_85 rfl ?_
          refine r_get dX8_dance_86 fX8_19 rfl rfl ?_
          refine r_iload_n dX8_dance_89 rfl ?_
          refine r_cV dX8_dance_90 (s_plan hcx.1 hcx.2 (Sq_load _) (Sd_load _) hVn.1) lX8_95 rfl rfl rfl (by decide) ⟨Nat.le_refl _, Nat.le_refl _⟩ (Nat.le_of_ble_eq_true rfl) ?_
          refine r_pc 93 rfl ?_
          rw [ho]
          refine r_if_ne 109 dX8_dance_93 (by decide) (fun h93 => ?_) (fun h93 => ?_)
          · exact absurd rfl h93
          · refine r_pc 96 rfl ?_
            refine r_aload_n dX8_dance_96 rfl ?_
            refine r_get dX8_dance_97 fX8_40 rfl rfl ?_
            refine r_aload_n dX8_dance_100 rfl ?_
            refine r_get dX8_dance_101 fX8_19 rfl rfl ?_
            refine r_cVv dX8_dance_104 (s_note (wv := fwv (Q n) x) (fun j _ => ⟨rfl, PW_lt _ _ _ _ _⟩)) lX8_98 rfl rfl rfl (by decide) ⟨Nat.le_refl _, Nat.le_refl _⟩ (Nat.le_of_ble_eq_true rfl) ?_
            refine r_pc 107 rfl ?_
            refine r_iload_n dX8_dance_107 rfl ?_
            exact r_iretP dX8_dance_108 rfl ⟨rfl, by show DP l (i, (n, m, cd, Q, tal)) kn kc kQ b ik fr R _; rw [DP, if_pos hil, hx]; exact ⟨_, _, _, _, _, _, _, _, _, _, _, _, _, _, _, _, _, _, _, _, _, _, _, _, _, _, _, _, _, _, _, rfl, ⟨⟨Nat.zero_le _, (fun j h => absurd h (Nat.not_lt_zero _)), s3, s4, s5, hcn⟩, (fun j h => absurd h (Nat.not_lt_zero _)), hdc, hdp, hec, hep, (fun j hj => nrw_ext 8 j hj), hta, hwo⟩⟩⟩
      | true =>
        rw [ho] at hnx
        dsimp only at hnx
        have hV1 := hV _ _ _ hVn (cnr_lt hcx) hnx
        rw [hnx]
        generalize hqn : pkI (fun j => stI (PT (sqc (Q n)) (sqf (Q n)) (x / 100) (x % 100) j)) (fun j => nI (PU (sqc (Q n)) (sqf (Q n)) (x / 100) (x % 100) j)) 8 = qn at hV1
        dsimp only [dstep]
        have ih := fun fc ff fs ft fu fw fy fd y3 => ih (i + 1) (n + 1) (n + 1) (up cd n x) (up Q (n + 1) qn) (upd tal (x % 100) (tal (x % 100) + nI 1)) fc ff fs ft fu fw fy fd (upd dc n (nI (100 * (x / 100) + x % 100))) (vp_updL dp (n + 1) qn) (upd ta (x % 100) (ta (x % 100) + nI 1)) y3 (by omega) (by rw [← List.drop_drop, ← ht]; rfl) (by omega) (Nat.le_refl _) ⟨by omega, (fun j hj => by
            unfold up
            split
            · exact hcx
            · exact s4.2.1 j (by omega)), (fun j hj => by
            unfold up
            split
            · exact hV1
            · exact s4.2.2.1 j (by omega)), (by unfold up; rw [if_neg (by omega)]; exact s4.2.2.2)⟩ (fun j hj => by
            unfold up
            by_cases e : j = n
            · subst e; rw [pk_us, if_pos rfl, ← code_eq]
            · rw [pk_un e, if_neg e]; exact hdc j (by omega)) (fun j hj => by
            unfold up
            by_cases e : j = n + 1
            · subst e; rw [pk_uLs, if_pos rfl]
            · rw [pk_uLn e, if_neg e]; exact hdp j (by omega)) (fun j hj => by
            by_cases e : j = x % 100
            · subst e; rw [pk_us, pk_us, hta _ hj]
            · rw [pk_un e, pk_un e]; exact hta j hj)
        refine r_iload_n dX8_dance_51 rfl ?_
        refine r_aload_n dX8_dance_52 rfl ?_
        refine r_get dX8_dance_53 fX8_12 rfl rfl ?_
        refine r_get dX8_dance_56 fX8_77 rfl rfl ?_
        refine r_icmp_geN 135 dX8_dance_59 (by decide) (by omega) (by omega) (fun h59 => ?_) (fun h59 => ?_)
        · exact absurd h59 (by omega)
        · refine r_pc 62 rfl ?_
          refine r_aload_n dX8_dance_62 rfl ?_
          refine r_get dX8_dance_63 fX8_12 rfl rfl ?_
          refine r_iload_n dX8_dance_66 rfl ?_
          refine r_cV dX8_dance_67 (s_codeAtT (by omega) hil) lX8_83 rfl rfl rfl (by decide) ⟨Nat.le_refl _, Nat.le_refl _⟩ (Nat.le_of_ble_eq_true rfl) ?_
          refine r_topi _ e0 ?_
          refine r_istore_n (ls' := [_, _, _, _]) dX8_dance_70 (by decide) rfl ?_
          refine r_pc 71 rfl ?_
          refine r_aload_n dX8_dance_71 rfl ?_
          refine r_get dX8_dance_72 fX8_19 rfl rfl ?_
          refine r_aload_n dX8_dance_75 rfl ?_
          refine r_get dX8_dance_76 fX8_26 rfl rfl ?_
          refine r_cV dX8_dance_79 (s_latest (by omega)) lX8_87 rfl rfl rfl (by decide) ⟨Nat.le_refl _, Nat.le_refl _⟩ (Nat.le_of_ble_eq_true rfl) ?_
          refine r_pc 82 rfl ?_
          rw [hQn]
          refine r_cVv dX8_dance_82 (s_load _) lX8_91 rfl rfl rfl (by decide) ⟨Nat.le_refl _, Nat.le_refl _⟩ (Nat.le_of_ble_eq_true rfl) ?_
          refine r_aload_n dX8_dance_85 rfl ?_
          refine r_get dX8_dance_86 fX8_19 rfl rfl ?_
          refine r_iload_n dX8_dance_89 rfl ?_
          refine r_cV dX8_dance_90 (s_plan hcx.1 hcx.2 (Sq_load _) (Sd_load _) hVn.1) lX8_95 rfl rfl rfl (by decide) ⟨Nat.le_refl _, Nat.le_refl _⟩ (Nat.le_of_ble_eq_true rfl) ?_
          refine r_pc 93 rfl ?_
          rw [ho]
          refine r_if_ne 109 dX8_dance_93 (by decide) (fun h93 => ?_) (fun h93 => ?_)
          · refine r_pc 109 rfl ?_
            refine r_aload_n dX8_dance_109 rfl ?_
            refine r_get dX8_dance_110 fX8_26 rfl rfl ?_
            refine r_iload_n dX8_dance_113 rfl ?_
            refine r_aload_n dX8_dance_114 rfl ?_
            refine r_get dX8_dance_115 fX8_19 rfl rfl ?_
            refine r_pc 118 rfl ?_
            refine r_cV dX8_dance_118 s_planned lX8_102 rfl rfl rfl (by decide) ⟨Nat.le_refl _, Nat.le_refl _⟩ (Nat.le_of_ble_eq_true rfl) ?_
            rw [hqn]
            refine r_cVv dX8_dance_121 (s_addD (by omega)) lX8_105 rfl rfl rfl (by decide) ⟨Nat.le_refl _, Nat.le_refl _⟩ (Nat.le_of_ble_eq_true rfl) ?_
            refine r_aload_n dX8_dance_124 rfl ?_
            refine r_iload_n dX8_dance_125 rfl ?_
            refine r_cVv dX8_dance_126 (s_tally hcx.1 hcx.2) lX8_109 rfl rfl rfl (by decide) ⟨Nat.le_refl _, Nat.le_refl _⟩ (Nat.le_of_ble_eq_true rfl) ?_
            refine r_pc 129 rfl ?_
            refine r_inc1 (ls' := [_, _, _, _]) dX8_dance_129 (by decide) rfl rfl ?_
            refine r_goto 51 dX8_dance_132 (by decide) ?_
            refine r_pc 51 rfl ?_
            exact ih _ _ _ _ _ _ _ _ _
          · exact absurd h93 (by decide)
  subst hw0
  refine r_aload_n dX8_dance_0 rfl ?_
  refine r_get dX8_dance_1 fX8_12 rfl rfl ?_
  refine r_cV dX8_dance_4 (s_take hBy) lX8_70 rfl rfl rfl (by decide) ⟨Nat.le_refl _, Nat.le_refl _⟩ (Nat.le_of_ble_eq_true rfl) ?_
  rw [hr, hl2]
  refine r_istore_n (ls' := [_, _, _, _]) dX8_dance_7 (by decide) rfl ?_
  refine r_iload_n dX8_dance_8 rfl ?_
  refine r_pc 9 rfl ?_
  refine r_iconst (v := (-1)) dX8_dance_9 (by decide) ?_
  refine r_icmp_eq 18 dX8_dance_10 (by decide) (fun h10 => ?_) (fun h10 => ?_)
  · refine r_pc 18 rfl ?_
    refine r_aload_n dX8_dance_18 rfl ?_
    refine r_get dX8_dance_19 fX8_26 rfl rfl ?_
    refine r_get dX8_dance_22 fX8_74 rfl rfl ?_
    refine r_aload_n dX8_dance_25 rfl ?_
    refine r_get dX8_dance_26 fX8_12 rfl rfl ?_
    refine r_pc 29 rfl ?_
    refine r_get dX8_dance_29 fX8_77 rfl rfl ?_
    refine r_iaddN dX8_dance_32 ?_
    refine r_sipush (v := (nI 200)) dX8_dance_33 (by decide) ?_
    refine r_icmp_leN 42 dX8_dance_36 (by decide) (by omega) (by omega) (fun h36 => ?_) (fun h36 => ?_)
    · refine r_pc 42 rfl ?_
      refine r_aload_n dX8_dance_42 rfl ?_
      refine r_get dX8_dance_43 fX8_40 rfl rfl ?_
      refine r_cVv dX8_dance_46 s_clearF lX8_80 rfl rfl rfl (by decide) ⟨Nat.le_refl _, Nat.le_refl _⟩ (Nat.le_of_ble_eq_true rfl) ?_
      refine r_iconst (v := (nI 0)) dX8_dance_49 (by decide) ?_
      refine r_istore_n (ls' := [_, _, _, _]) dX8_dance_50 (by decide) rfl ?_
      refine r_pc 51 rfl ?_
      refine r_pc 51 rfl ?_
      exact Lp l 0 n m cd Q tal _ _ _ _ _ _ _ _ _ _ _ _ (Nat.zero_add _) rfl hl s3 s4 hdc hdp hta
    · exact absurd h36 (by omega)
  · exact absurd rfl h10
end C9
