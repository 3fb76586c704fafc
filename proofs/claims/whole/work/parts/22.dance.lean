theorem lk_copy : Cond.methodLink RX0 33 arraycopyName ∈ lw_gd ∧ Cond.native arraycopyName ∈ lw_gd ∧ Cond.static arraycopyName ∈ lw_gd ∧ Cond.initialized "java/lang/System" ∈ lw_gd := ⟨gd_mem (List.mem_of_getElem? (i := 724) (by decide +kernel)) rfl, gd_mem (List.mem_of_getElem? (i := 726) (by decide +kernel)) rfl, gd_mem (List.mem_of_getElem? (i := 725) (by decide +kernel)) rfl, gd_mem (List.mem_of_getElem? (i := 74) (by decide +kernel)) rfl⟩

theorem r_copyi {Z : ZT} {X : XT} {M : MI} {k mc ms : Nat} {w0 : WD} {nc ns pc : Nat} {ls : List (Option Value)} {w w2 : WD} {idx q0 q1 n0 n1 n : Nat} {f g : Nat → Int32} (hd : decode M.2.1 pc = .ok (.invokestatic idx, 3)) (hL : Cond.methodLink M.1.cls idx arraycopyName ∈ lw_gd ∧ Cond.native arraycopyName ∈ lw_gd ∧ Cond.static arraycopyName ∈ lw_gd ∧ Cond.initialized "java/lang/System" ∈ lw_gd) (hw0 : wg w q0 = some (.inl (0, n0, .inl f))) (hw1 : wg w q1 = some (.inl (0, n1, .inl g))) (h0 : n ≤ n0) (h1 : n ≤ n1) (hn : n < 2 ^ 31) (hk : 1 ≤ k) (hloc : nativeFrameWords "java/lang/System" "arraycopy" 5 + 11 ≤ 38 * k) (h2 : wput w q1 (.inl (0, n1, .inl (va_cpy f g 0 0 n))) = w2) (K : Rq Z X M k mc ms w0 nc ns (pc + 3) ls [] w2) : Rq Z X M k mc ms w0 nc ns pc ls [.int (nI n), .int (nI 0), .ref q1, .int (nI 0), .ref q0] w := by
  intro p l e s m args below meth c D cA ad0 A hC hX ad H locs lsA hg hP hD hS hl
  have hC0 := hC
  obtain ⟨hx, hb, hml, hrt, hlk, hnm, hown, hts, hK, hA, hSt⟩ := hC
  obtain ⟨a0, hq0, -⟩ := cw_at (ad := ad) (cA := cA) hw0
  obtain ⟨a1, hq1, hs⟩ := cw_at (ad := ad) (cA := cA) hw1
  have z0 : (nI 0).toNatClampNeg = 0 := nI_clamp (by decide)
  have zn : (nI n).toNatClampNeg = n := nI_clamp hn
  refine va_copyi hx hb (hml.trans hl.1.symm) hown (hts _ hL.1) (hts _ hL.2.1) (hts _ hL.2.2.1) (hts _ hL.2.2.2) hK hP hD hS a0 a1 0 0 hq0 hq1 rfl rfl rfl (nI_pos (by decide)) (nI_pos (by decide)) (nI_pos hn) (by rw [z0, zn, Nat.zero_add]; exact h0) (by rw [z0, zn, Nat.zero_add]; exact h1) (fun _ _ => rfl) hk (by show 0 + _ ≤ 38 * k; omega) hd (fun H1 locs1 hP1 hD1 hS1 => ?_)
  rw [z0, zn] at hP1 hD1
  have hs2 := hs (.inl (0, n1, .inl (va_cpy f g 0 0 n)))
  rw [h2] at hs2
  have hs3 : (cw ad cA w).set a1 (ad q1, .inl (cA 0, n1, .inl (va_cpy f g 0 0 n))) = cw ad cA w2 := hs2
  rw [hs3] at hP1 hD1
  exact K p l e s m args below meth c D cA ad0 A hC0 hX ad H1 locs1 lsA hg hP1 hD1 hS1 hl
theorem r_copyl {Z : ZT} {X : XT} {M : MI} {k mc ms : Nat} {w0 : WD} {nc ns pc : Nat} {ls : List (Option Value)} {w w2 : WD} {idx q0 q1 n0 n1 n : Nat} {f g : Nat → Int64} (hd : decode M.2.1 pc = .ok (.invokestatic idx, 3)) (hL : Cond.methodLink M.1.cls idx arraycopyName ∈ lw_gd ∧ Cond.native arraycopyName ∈ lw_gd ∧ Cond.static arraycopyName ∈ lw_gd ∧ Cond.initialized "java/lang/System" ∈ lw_gd) (hw0 : wg w q0 = some (.inl (1, n0, .inr (.inl f)))) (hw1 : wg w q1 = some (.inl (1, n1, .inr (.inl g)))) (h0 : n ≤ n0) (h1 : n ≤ n1) (hn : n < 2 ^ 31) (hk : 1 ≤ k) (hloc : nativeFrameWords "java/lang/System" "arraycopy" 5 + 11 ≤ 38 * k) (h2 : wput w q1 (.inl (1, n1, .inr (.inl (va_cpy f g 0 0 n)))) = w2) (K : Rq Z X M k mc ms w0 nc ns (pc + 3) ls [] w2) : Rq Z X M k mc ms w0 nc ns pc ls [.int (nI n), .int (nI 0), .ref q1, .int (nI 0), .ref q0] w := by
  intro p l e s m args below meth c D cA ad0 A hC hX ad H locs lsA hg hP hD hS hl
  have hC0 := hC
  obtain ⟨hx, hb, hml, hrt, hlk, hnm, hown, hts, hK, hA, hSt⟩ := hC
  obtain ⟨a0, hq0, -⟩ := cw_at (ad := ad) (cA := cA) hw0
  obtain ⟨a1, hq1, hs⟩ := cw_at (ad := ad) (cA := cA) hw1
  have z0 : (nI 0).toNatClampNeg = 0 := nI_clamp (by decide)
  have zn : (nI n).toNatClampNeg = n := nI_clamp hn
  refine va_copyl hx hb (hml.trans hl.1.symm) hown (hts _ hL.1) (hts _ hL.2.1) (hts _ hL.2.2.1) (hts _ hL.2.2.2) hK hP hD hS a0 a1 1 1 hq0 hq1 rfl rfl rfl (nI_pos (by decide)) (nI_pos (by decide)) (nI_pos hn) (by rw [z0, zn, Nat.zero_add]; exact h0) (by rw [z0, zn, Nat.zero_add]; exact h1) (fun _ _ => rfl) hk (by show 0 + _ ≤ 38 * k; omega) hd (fun H1 locs1 hP1 hD1 hS1 => ?_)
  rw [z0, zn] at hP1 hD1
  have hs2 := hs (.inl (1, n1, .inr (.inl (va_cpy f g 0 0 n))))
  rw [h2] at hs2
  have hs3 : (cw ad cA w).set a1 (ad q1, .inl (cA 1, n1, .inr (.inl (va_cpy f g 0 0 n)))) = cw ad cA w2 := hs2
  rw [hs3] at hP1 hD1
  exact K p l e s m args below meth c D cA ad0 A hC0 hX ad H1 locs1 lsA hg hP1 hD1 hS1 hl
theorem cpy_ext {α : Type} (f g : Nat → α) {n j : Nat} (h : j < n) : va_cpy f g 0 0 n j = f j := by
  rw [pk_cpy_in (Nat.zero_le _) (by omega)]
  congr 1
  omega
/-- how many calls side by side, from the i-th on, are the same: k of them are; at most fuel more -/
def sfx (dc : Nat → Int32) (n i : Nat) : Nat → Nat → Nat
  | 0, k => k
  | fuel + 1, k => if i + k < n ∧ dc (i + k) = dc i then sfx dc n i fuel (k + 1) else k
def sameN (dc : Nat → Int32) (n i : Nat) : Nat := sfx dc n i 3 1
section D1
variable {tb : Nat → Int32} {tl : Int32} {tc : Nat → Int32} {tn : Int32} {fc ff fs ft fu fw : Nat → Int32} {fy fd : Int32} {dc : Nat → Int32} {dp dq : Nat → Int64} {dn dm : Int32} {ec : Nat → Int32} {ep eq : Nat → Int64} {en em ik : Int32} {lr : Nat → Int32} {ln ly : Int32} {wh : Int64} {wr : Nat → Int64} {wf wb : Nat → Int32} {wn : Int32} {gz : G8} {wc : Nat → Int32} {ws : Int64} {wa pw pf pl : Int32} {ta : Nat → Int32}
variable {R : List AE}
theorem s_latest {n : Nat} (hn : n ≤ 200) : Sem mX0_latest 1 0 0 [.ref 11] (cW tb tl tc tn fc ff fs ft fu fw fy fd dc dp dq (nI n) dm ec ep eq en em ik lr ln ly wh wr wf wb wn gz wc ws wa pw pf pl ta, R) (some (.long (dp n))) (cW tb tl tc tn fc ff fs ft fu fw fy fd dc dp dq (nI n) dm ec ep eq en em ik lr ln ly wh wr wf wb wn gz wc ws wa pw pf pl ta, R) := by
  refine sem_of (by decide) (Nat.le_of_ble_eq_true rfl) rfl ?_
  refine r_aload_n dX0_latest_0 rfl ?_
  refine r_get dX0_latest_1 fX0_13 rfl rfl ?_
  refine r_aload_n dX0_latest_4 rfl ?_
  refine r_get dX0_latest_5 fX0_20 rfl rfl ?_
  refine r_lald dX0_latest_8 rfl rfl (by omega) (by decide) ?_
  refine r_pc 9 rfl ?_
  exact r_lret dX0_latest_9 rfl rfl rfl
theorem s_latestK {n : Nat} (hn : n ≤ 200) : Sem mX0_latest 1 0 0 [.ref 15] (cW tb tl tc tn fc ff fs ft fu fw fy fd dc dp dq dn dm ec ep eq (nI n) em ik lr ln ly wh wr wf wb wn gz wc ws wa pw pf pl ta, R) (some (.long (ep n))) (cW tb tl tc tn fc ff fs ft fu fw fy fd dc dp dq dn dm ec ep eq (nI n) em ik lr ln ly wh wr wf wb wn gz wc ws wa pw pf pl ta, R) := by
  refine sem_of (by decide) (Nat.le_of_ble_eq_true rfl) rfl ?_
  refine r_aload_n dX0_latest_0 rfl ?_
  refine r_get dX0_latest_1 fX0_13 rfl rfl ?_
  refine r_aload_n dX0_latest_4 rfl ?_
  refine r_get dX0_latest_5 fX0_20 rfl rfl ?_
  refine r_lald dX0_latest_8 rfl rfl (by omega) (by decide) ?_
  refine r_pc 9 rfl ?_
  exact r_lret dX0_latest_9 rfl rfl rfl
theorem s_codeAtD {n i : Nat} (hn : n ≤ 200) (hi : i < n) : Sem mX0_codeAt 1 0 0 [.ref 11, .int (nI i)] (cW tb tl tc tn fc ff fs ft fu fw fy fd dc dp dq (nI n) dm ec ep eq en em ik lr ln ly wh wr wf wb wn gz wc ws wa pw pf pl ta, R) (some (.int (dc i))) (cW tb tl tc tn fc ff fs ft fu fw fy fd dc dp dq (nI n) dm ec ep eq en em ik lr ln ly wh wr wf wb wn gz wc ws wa pw pf pl ta, R) := by
  refine sem_of (by decide) (Nat.le_of_ble_eq_true rfl) rfl ?_
  refine r_iload_n dX0_codeAt_0 rfl ?_
  refine r_if_lt 21 dX0_codeAt_1 (by decide) (fun h1 => ?_) (fun h1 => ?_)
  · exact absurd h1 (nI_pos (by omega))
  · refine r_pc 4 rfl ?_
    refine r_iload_n dX0_codeAt_4 rfl ?_
    refine r_aload_n dX0_codeAt_5 rfl ?_
    refine r_get dX0_codeAt_6 fX0_20 rfl rfl ?_
    refine r_icmp_geN 21 dX0_codeAt_9 (by decide) (by omega) (by omega) (fun h9 => ?_) (fun h9 => ?_)
    · exact absurd h9 (by omega)
    · refine r_pc 12 rfl ?_
      refine r_aload_n dX0_codeAt_12 rfl ?_
      refine r_get dX0_codeAt_13 fX0_9 rfl rfl ?_
      refine r_iload_n dX0_codeAt_16 rfl ?_
      refine r_iald dX0_codeAt_17 rfl rfl (by omega) (by decide) ?_
      refine r_goto 22 dX0_codeAt_18 (by decide) ?_
      exact r_iret dX0_codeAt_22 rfl rfl rfl
theorem s_addD {n : Nat} {x : Int32} {q : Int64} (hn : n < 200) : Sem mX0_add 1 0 0 [.ref 11, .int x, .long q] (cW tb tl tc tn fc ff fs ft fu fw fy fd dc dp dq (nI n) dm ec ep eq en em ik lr ln ly wh wr wf wb wn gz wc ws wa pw pf pl ta, R) none (cW tb tl tc tn fc ff fs ft fu fw fy fd (upd dc n x) (vp_updL dp (n + 1) q) dq (nI (n + 1)) (nI (n + 1)) ec ep eq en em ik lr ln ly wh wr wf wb wn gz wc ws wa pw pf pl ta, R) := by
  refine sem_of (by decide) (Nat.le_of_ble_eq_true rfl) rfl ?_
  refine r_aload_n dX0_add_0 rfl ?_
  refine r_get dX0_add_1 fX0_20 rfl rfl ?_
  refine r_sipush (v := (nI 200)) dX0_add_4 (by decide) ?_
  refine r_icmp_ltN 11 dX0_add_7 (by decide) (by omega) (by omega) (fun h7 => ?_) (fun h7 => ?_)
  · refine r_pc 11 rfl ?_
    refine r_aload_n dX0_add_11 rfl ?_
    refine r_get dX0_add_12 fX0_9 rfl rfl ?_
    refine r_aload_n dX0_add_15 rfl ?_
    refine r_get dX0_add_16 fX0_20 rfl rfl ?_
    refine r_iload_n dX0_add_19 rfl ?_
    refine r_pc 20 rfl ?_
    refine r_iast (w2 := (cW _ _ _ _ _ _ _ _ _ _ _ _ _ _ _ _ _ _ _ _ _ _ _ _ _ _ _ _ _ _ _ _ _ _ _ _ _ _ _, _)) dX0_add_20 rfl rfl (by omega) (by decide) rfl ?_
    refine r_aload_n dX0_add_21 rfl ?_
    refine r_dup dX0_add_22 rfl ?_
    refine r_get dX0_add_23 fX0_20 rfl rfl ?_
    refine r_iconst (v := (nI 1)) dX0_add_26 (by decide) ?_
    refine r_pc 27 rfl ?_
    refine r_iaddN dX0_add_27 ?_
    refine r_put (w2 := (cW _ _ _ _ _ _ _ _ _ _ _ _ _ _ _ _ _ _ _ _ _ _ _ _ _ _ _ _ _ _ _ _ _ _ _ _ _ _ _, _)) dX0_add_28 fX0_20 rfl rfl (Nat.le_of_ble_eq_true rfl) (fun _ => rfl) (fun _ => rfl) rfl ?_
    refine r_aload_n dX0_add_31 rfl ?_
    refine r_get dX0_add_32 fX0_13 rfl rfl ?_
    refine r_aload_n dX0_add_35 rfl ?_
    refine r_pc 36 rfl ?_
    refine r_get dX0_add_36 fX0_20 rfl rfl ?_
    refine r_lload_n dX0_add_39 rfl ?_
    refine r_last (w2 := (cW _ _ _ _ _ _ _ _ _ _ _ _ _ _ _ _ _ _ _ _ _ _ _ _ _ _ _ _ _ _ _ _ _ _ _ _ _ _ _, _)) dX0_add_40 rfl rfl (by omega) (by decide) rfl ?_
    refine r_aload_n dX0_add_41 rfl ?_
    refine r_aload_n dX0_add_42 rfl ?_
    refine r_pc 43 rfl ?_
    refine r_get dX0_add_43 fX0_20 rfl rfl ?_
    refine r_put (w2 := (cW _ _ _ _ _ _ _ _ _ _ _ _ _ _ _ _ _ _ _ _ _ _ _ _ _ _ _ _ _ _ _ _ _ _ _ _ _ _ _, _)) dX0_add_46 fX0_24 rfl rfl (Nat.le_of_ble_eq_true rfl) (fun _ => rfl) (fun _ => rfl) rfl ?_
    exact r_vret dX0_add_49 rfl rfl rfl
  · exact absurd h7 (by omega)
theorem s_stepBack0 : Sem mX0_stepBack 1 0 0 [.ref 11] (cW tb tl tc tn fc ff fs ft fu fw fy fd dc dp dq (nI 0) dm ec ep eq en em ik lr ln ly wh wr wf wb wn gz wc ws wa pw pf pl ta, R) (some (.int (nI 0))) (cW tb tl tc tn fc ff fs ft fu fw fy fd dc dp dq (nI 0) dm ec ep eq en em ik lr ln ly wh wr wf wb wn gz wc ws wa pw pf pl ta, R) := by
  refine sem_of (by decide) (Nat.le_of_ble_eq_true rfl) rfl ?_
  refine r_aload_n dX0_stepBack_0 rfl ?_
  refine r_get dX0_stepBack_1 fX0_20 rfl rfl ?_
  refine r_if_ne 9 dX0_stepBack_4 (by decide) (fun h4 => ?_) (fun h4 => ?_)
  · exact absurd rfl h4
  · refine r_pc 7 rfl ?_
    refine r_iconst (v := (nI 0)) dX0_stepBack_7 (by decide) ?_
    exact r_zret dX0_stepBack_8 rfl rfl rfl rfl
theorem s_stepBack1 {n : Nat} (hn : n < 200) : Sem mX0_stepBack 1 0 0 [.ref 11] (cW tb tl tc tn fc ff fs ft fu fw fy fd dc dp dq (nI (n + 1)) dm ec ep eq en em ik lr ln ly wh wr wf wb wn gz wc ws wa pw pf pl ta, R) (some (.int (nI 1))) (cW tb tl tc tn fc ff fs ft fu fw fy fd dc dp dq (nI n) dm ec ep eq en em ik lr ln ly wh wr wf wb wn gz wc ws wa pw pf pl ta, R) := by
  refine sem_of (by decide) (Nat.le_of_ble_eq_true rfl) rfl ?_
  refine r_aload_n dX0_stepBack_0 rfl ?_
  refine r_get dX0_stepBack_1 fX0_20 rfl rfl ?_
  refine r_if_ne 9 dX0_stepBack_4 (by decide) (fun h4 => ?_) (fun h4 => ?_)
  · refine r_pc 9 rfl ?_
    refine r_aload_n dX0_stepBack_9 rfl ?_
    refine r_dup dX0_stepBack_10 rfl ?_
    refine r_get dX0_stepBack_11 fX0_20 rfl rfl ?_
    refine r_iconst (v := (nI 1)) dX0_stepBack_14 (by decide) ?_
    refine r_isubN dX0_stepBack_15 (by omega) ?_
    refine r_pc 16 rfl ?_
    refine r_put (w2 := (cW _ _ _ _ _ _ _ _ _ _ _ _ _ _ _ _ _ _ _ _ _ _ _ _ _ _ _ _ _ _ _ _ _ _ _ _ _ _ _, _)) dX0_stepBack_16 fX0_20 rfl rfl (Nat.le_of_ble_eq_true rfl) (fun _ => rfl) (fun _ => rfl) rfl ?_
    refine r_iconst (v := (nI 1)) dX0_stepBack_19 (by decide) ?_
    exact r_zret dX0_stepBack_20 rfl rfl rfl rfl
  · exact absurd (nI_z (by omega) h4) (by omega)
theorem s_stepAgain0 {n m : Nat} (hn : n ≤ 200) (h : m ≤ n) : Sem mX0_stepAgain 1 0 0 [.ref 11] (cW tb tl tc tn fc ff fs ft fu fw fy fd dc dp dq (nI n) (nI m) ec ep eq en em ik lr ln ly wh wr wf wb wn gz wc ws wa pw pf pl ta, R) (some (.int (nI 0))) (cW tb tl tc tn fc ff fs ft fu fw fy fd dc dp dq (nI n) (nI m) ec ep eq en em ik lr ln ly wh wr wf wb wn gz wc ws wa pw pf pl ta, R) := by
  refine sem_of (by decide) (Nat.le_of_ble_eq_true rfl) rfl ?_
  refine r_aload_n dX0_stepAgain_0 rfl ?_
  refine r_get dX0_stepAgain_1 fX0_20 rfl rfl ?_
  refine r_aload_n dX0_stepAgain_4 rfl ?_
  refine r_get dX0_stepAgain_5 fX0_24 rfl rfl ?_
  refine r_icmp_ltN 13 dX0_stepAgain_8 (by decide) (by omega) (by omega) (fun h8 => ?_) (fun h8 => ?_)
  · exact absurd h8 (by omega)
  · refine r_pc 11 rfl ?_
    refine r_iconst (v := (nI 0)) dX0_stepAgain_11 (by decide) ?_
    exact r_zret dX0_stepAgain_12 rfl rfl rfl rfl
theorem s_stepAgain1 {n m : Nat} (hm : m ≤ 200) (h : n < m) : Sem mX0_stepAgain 1 0 0 [.ref 11] (cW tb tl tc tn fc ff fs ft fu fw fy fd dc dp dq (nI n) (nI m) ec ep eq en em ik lr ln ly wh wr wf wb wn gz wc ws wa pw pf pl ta, R) (some (.int (nI 1))) (cW tb tl tc tn fc ff fs ft fu fw fy fd dc dp dq (nI (n + 1)) (nI m) ec ep eq en em ik lr ln ly wh wr wf wb wn gz wc ws wa pw pf pl ta, R) := by
  refine sem_of (by decide) (Nat.le_of_ble_eq_true rfl) rfl ?_
  refine r_aload_n dX0_stepAgain_0 rfl ?_
  refine r_get dX0_stepAgain_1 fX0_20 rfl rfl ?_
  refine r_aload_n dX0_stepAgain_4 rfl ?_
  refine r_get dX0_stepAgain_5 fX0_24 rfl rfl ?_
  refine r_icmp_ltN 13 dX0_stepAgain_8 (by decide) (by omega) (by omega) (fun h8 => ?_) (fun h8 => ?_)
  · refine r_pc 13 rfl ?_
    refine r_aload_n dX0_stepAgain_13 rfl ?_
    refine r_dup dX0_stepAgain_14 rfl ?_
    refine r_get dX0_stepAgain_15 fX0_20 rfl rfl ?_
    refine r_iconst (v := (nI 1)) dX0_stepAgain_18 (by decide) ?_
    refine r_iaddN dX0_stepAgain_19 ?_
    refine r_pc 20 rfl ?_
    refine r_put (w2 := (cW _ _ _ _ _ _ _ _ _ _ _ _ _ _ _ _ _ _ _ _ _ _ _ _ _ _ _ _ _ _ _ _ _ _ _ _ _ _ _, _)) dX0_stepAgain_20 fX0_20 rfl rfl (Nat.le_of_ble_eq_true rfl) (fun _ => rfl) (fun _ => rfl) rfl ?_
    refine r_iconst (v := (nI 1)) dX0_stepAgain_23 (by decide) ?_
    exact r_zret dX0_stepAgain_24 rfl rfl rfl rfl
  · exact absurd h8 (by omega)
theorem s_clearD : Sem mX0_clear 1 0 0 [.ref 11] (cW tb tl tc tn fc ff fs ft fu fw fy fd dc dp dq dn dm ec ep eq en em ik lr ln ly wh wr wf wb wn gz wc ws wa pw pf pl ta, R) none (cW tb tl tc tn fc ff fs ft fu fw fy fd dc dp dq (nI 0) (nI 0) ec ep eq en em ik lr ln ly wh wr wf wb wn gz wc ws wa pw pf pl ta, R) := by
  refine sem_of (by decide) (Nat.le_of_ble_eq_true rfl) rfl ?_
  refine r_aload_n dX0_clear_0 rfl ?_
  refine r_iconst (v := (nI 0)) dX0_clear_1 (by decide) ?_
  refine r_put (w2 := (cW _ _ _ _ _ _ _ _ _ _ _ _ _ _ _ _ _ _ _ _ _ _ _ _ _ _ _ _ _ _ _ _ _ _ _ _ _ _ _, _)) dX0_clear_2 fX0_20 rfl rfl (Nat.le_of_ble_eq_true rfl) (fun _ => rfl) (fun _ => rfl) rfl ?_
  refine r_aload_n dX0_clear_5 rfl ?_
  refine r_iconst (v := (nI 0)) dX0_clear_6 (by decide) ?_
  refine r_pc 7 rfl ?_
  refine r_put (w2 := (cW _ _ _ _ _ _ _ _ _ _ _ _ _ _ _ _ _ _ _ _ _ _ _ _ _ _ _ _ _ _ _ _ _ _ _ _ _ _ _, _)) dX0_clear_7 fX0_24 rfl rfl (Nat.le_of_ble_eq_true rfl) (fun _ => rfl) (fun _ => rfl) rfl ?_
  exact r_vret dX0_clear_10 rfl rfl rfl
theorem s_copyK {n : Nat} (hn : n ≤ 200) : Sem mX0_copyFrom 2 0 0 [.ref 15, .ref 11] (cW tb tl tc tn fc ff fs ft fu fw fy fd dc dp dq (nI n) dm ec ep eq en em ik lr ln ly wh wr wf wb wn gz wc ws wa pw pf pl ta, R) none (cW tb tl tc tn fc ff fs ft fu fw fy fd dc dp dq (nI n) dm (va_cpy dc ec 0 0 n) (va_cpy dp ep 0 0 (n + 1)) eq (nI n) (nI n) ik lr ln ly wh wr wf wb wn gz wc ws wa pw pf pl ta, R) := by
  refine sem_of (by decide) (Nat.le_of_ble_eq_true rfl) rfl ?_
  refine r_aload_n dX0_copyFrom_0 rfl ?_
  refine r_aload_n dX0_copyFrom_1 rfl ?_
  refine r_get dX0_copyFrom_2 fX0_20 rfl rfl ?_
  refine r_put (w2 := (cW _ _ _ _ _ _ _ _ _ _ _ _ _ _ _ _ _ _ _ _ _ _ _ _ _ _ _ _ _ _ _ _ _ _ _ _ _ _ _, _)) dX0_copyFrom_5 fX0_20 rfl rfl (Nat.le_of_ble_eq_true rfl) (fun _ => rfl) (fun _ => rfl) rfl ?_
  refine r_aload_n dX0_copyFrom_8 rfl ?_
  refine r_pc 9 rfl ?_
  refine r_aload_n dX0_copyFrom_9 rfl ?_
  refine r_get dX0_copyFrom_10 fX0_20 rfl rfl ?_
  refine r_put (w2 := (cW _ _ _ _ _ _ _ _ _ _ _ _ _ _ _ _ _ _ _ _ _ _ _ _ _ _ _ _ _ _ _ _ _ _ _ _ _ _ _, _)) dX0_copyFrom_13 fX0_24 rfl rfl (Nat.le_of_ble_eq_true rfl) (fun _ => rfl) (fun _ => rfl) rfl ?_
  refine r_aload_n dX0_copyFrom_16 rfl ?_
  refine r_get dX0_copyFrom_17 fX0_9 rfl rfl ?_
  refine r_pc 20 rfl ?_
  refine r_iconst (v := (nI 0)) dX0_copyFrom_20 (by decide) ?_
  refine r_aload_n dX0_copyFrom_21 rfl ?_
  refine r_get dX0_copyFrom_22 fX0_9 rfl rfl ?_
  refine r_iconst (v := (nI 0)) dX0_copyFrom_25 (by decide) ?_
  refine r_aload_n dX0_copyFrom_26 rfl ?_
  refine r_pc 27 rfl ?_
  refine r_get dX0_copyFrom_27 fX0_20 rfl rfl ?_
  refine r_pc 30 rfl ?_
  refine r_copyi (w2 := (cW _ _ _ _ _ _ _ _ _ _ _ _ _ _ _ _ _ _ _ _ _ _ _ _ _ _ _ _ _ _ _ _ _ _ _ _ _ _ _, _)) dX0_copyFrom_30 lk_copy rfl rfl (by omega) (by omega) (by omega) (by decide) (by decide +kernel) rfl ?_
  refine r_aload_n dX0_copyFrom_33 rfl ?_
  refine r_get dX0_copyFrom_34 fX0_13 rfl rfl ?_
  refine r_iconst (v := (nI 0)) dX0_copyFrom_37 (by decide) ?_
  refine r_aload_n dX0_copyFrom_38 rfl ?_
  refine r_get dX0_copyFrom_39 fX0_13 rfl rfl ?_
  refine r_pc 42 rfl ?_
  refine r_iconst (v := (nI 0)) dX0_copyFrom_42 (by decide) ?_
  refine r_aload_n dX0_copyFrom_43 rfl ?_
  refine r_get dX0_copyFrom_44 fX0_20 rfl rfl ?_
  refine r_iconst (v := (nI 1)) dX0_copyFrom_47 (by decide) ?_
  refine r_iaddN dX0_copyFrom_48 ?_
  refine r_pc 49 rfl ?_
  refine r_copyl (w2 := (cW _ _ _ _ _ _ _ _ _ _ _ _ _ _ _ _ _ _ _ _ _ _ _ _ _ _ _ _ _ _ _ _ _ _ _ _ _ _ _, _)) dX0_copyFrom_49 lk_copy rfl rfl (by omega) (by omega) (by omega) (by decide) (by decide +kernel) rfl ?_
  exact r_vret dX0_copyFrom_52 rfl rfl rfl
theorem s_copyB {n : Nat} (hn : n ≤ 200) : Sem mX0_copyFrom 2 0 0 [.ref 11, .ref 15] (cW tb tl tc tn fc ff fs ft fu fw fy fd dc dp dq dn dm ec ep eq (nI n) em ik lr ln ly wh wr wf wb wn gz wc ws wa pw pf pl ta, R) none (cW tb tl tc tn fc ff fs ft fu fw fy fd (va_cpy ec dc 0 0 n) (va_cpy ep dp 0 0 (n + 1)) dq (nI n) (nI n) ec ep eq (nI n) em ik lr ln ly wh wr wf wb wn gz wc ws wa pw pf pl ta, R) := by
  refine sem_of (by decide) (Nat.le_of_ble_eq_true rfl) rfl ?_
  refine r_aload_n dX0_copyFrom_0 rfl ?_
  refine r_aload_n dX0_copyFrom_1 rfl ?_
  refine r_get dX0_copyFrom_2 fX0_20 rfl rfl ?_
  refine r_put (w2 := (cW _ _ _ _ _ _ _ _ _ _ _ _ _ _ _ _ _ _ _ _ _ _ _ _ _ _ _ _ _ _ _ _ _ _ _ _ _ _ _, _)) dX0_copyFrom_5 fX0_20 rfl rfl (Nat.le_of_ble_eq_true rfl) (fun _ => rfl) (fun _ => rfl) rfl ?_
  refine r_aload_n dX0_copyFrom_8 rfl ?_
  refine r_pc 9 rfl ?_
  refine r_aload_n dX0_copyFrom_9 rfl ?_
  refine r_get dX0_copyFrom_10 fX0_20 rfl rfl ?_
  refine r_put (w2 := (cW _ _ _ _ _ _ _ _ _ _ _ _ _ _ _ _ _ _ _ _ _ _ _ _ _ _ _ _ _ _ _ _ _ _ _ _ _ _ _, _)) dX0_copyFrom_13 fX0_24 rfl rfl (Nat.le_of_ble_eq_true rfl) (fun _ => rfl) (fun _ => rfl) rfl ?_
  refine r_aload_n dX0_copyFrom_16 rfl ?_
  refine r_get dX0_copyFrom_17 fX0_9 rfl rfl ?_
  refine r_pc 20 rfl ?_
  refine r_iconst (v := (nI 0)) dX0_copyFrom_20 (by decide) ?_
  refine r_aload_n dX0_copyFrom_21 rfl ?_
  refine r_get dX0_copyFrom_22 fX0_9 rfl rfl ?_
  refine r_iconst (v := (nI 0)) dX0_copyFrom_25 (by decide) ?_
  refine r_aload_n dX0_copyFrom_26 rfl ?_
  refine r_pc 27 rfl ?_
  refine r_get dX0_copyFrom_27 fX0_20 rfl rfl ?_
  refine r_pc 30 rfl ?_
  refine r_copyi (w2 := (cW _ _ _ _ _ _ _ _ _ _ _ _ _ _ _ _ _ _ _ _ _ _ _ _ _ _ _ _ _ _ _ _ _ _ _ _ _ _ _, _)) dX0_copyFrom_30 lk_copy rfl rfl (by omega) (by omega) (by omega) (by decide) (by decide +kernel) rfl ?_
  refine r_aload_n dX0_copyFrom_33 rfl ?_
  refine r_get dX0_copyFrom_34 fX0_13 rfl rfl ?_
  refine r_iconst (v := (nI 0)) dX0_copyFrom_37 (by decide) ?_
  refine r_aload_n dX0_copyFrom_38 rfl ?_
  refine r_get dX0_copyFrom_39 fX0_13 rfl rfl ?_
  refine r_pc 42 rfl ?_
  refine r_iconst (v := (nI 0)) dX0_copyFrom_42 (by decide) ?_
  refine r_aload_n dX0_copyFrom_43 rfl ?_
  refine r_get dX0_copyFrom_44 fX0_20 rfl rfl ?_
  refine r_iconst (v := (nI 1)) dX0_copyFrom_47 (by decide) ?_
  refine r_iaddN dX0_copyFrom_48 ?_
  refine r_pc 49 rfl ?_
  refine r_copyl (w2 := (cW _ _ _ _ _ _ _ _ _ _ _ _ _ _ _ _ _ _ _ _ _ _ _ _ _ _ _ _ _ _ _ _ _ _ _ _ _ _ _, _)) dX0_copyFrom_49 lk_copy rfl rfl (by omega) (by omega) (by omega) (by decide) (by decide +kernel) rfl ?_
  exact r_vret dX0_copyFrom_52 rfl rfl rfl
theorem s_isSame {n i : Nat} (hn : n ≤ 200) (hi : i < n) : Sem mX0_isSameAsNext 2 0 0 [.ref 11, .int (nI i)] (cW tb tl tc tn fc ff fs ft fu fw fy fd dc dp dq (nI n) dm ec ep eq en em ik lr ln ly wh wr wf wb wn gz wc ws wa pw pf pl ta, R) (some (.int (bI (decide (i + 1 < n ∧ dc i = dc (i + 1)))))) (cW tb tl tc tn fc ff fs ft fu fw fy fd dc dp dq (nI n) dm ec ep eq en em ik lr ln ly wh wr wf wb wn gz wc ws wa pw pf pl ta, R) := by
  refine sem_of (by decide) (Nat.le_of_ble_eq_true rfl) rfl ?_
  refine r_iload_n dX0_isSameAsNext_0 rfl ?_
  refine r_iconst (v := (nI 1)) dX0_isSameAsNext_1 (by decide) ?_
  refine r_iaddN dX0_isSameAsNext_2 ?_
  refine r_aload_n dX0_isSameAsNext_3 rfl ?_
  refine r_get dX0_isSameAsNext_4 fX0_20 rfl rfl ?_
  refine r_pc 7 rfl ?_
  refine r_icmp_geN 29 dX0_isSameAsNext_7 (by decide) (by omega) (by omega) (fun h7 => ?_) (fun h7 => ?_)
  · rw [show decide (i + 1 < n ∧ dc i = dc (i + 1)) = false from decide_eq_false (fun q => by omega)]
    refine r_pc 29 rfl ?_
    refine r_iconst (v := (nI 0)) dX0_isSameAsNext_29 (by decide) ?_
    exact r_zret dX0_isSameAsNext_30 rfl rfl rfl rfl
  · refine r_pc 10 rfl ?_
    refine r_aload_n dX0_isSameAsNext_10 rfl ?_
    refine r_iload_n dX0_isSameAsNext_11 rfl ?_
    refine r_cV dX0_isSameAsNext_12 (s_codeAtD hn hi) lX0_47 rfl rfl rfl (by decide) ⟨Nat.le_refl _, Nat.le_refl _⟩ (Nat.le_of_ble_eq_true rfl) ?_
    refine r_aload_n dX0_isSameAsNext_15 rfl ?_
    refine r_iload_n dX0_isSameAsNext_16 rfl ?_
    refine r_pc 17 rfl ?_
    refine r_iconst (v := (nI 1)) dX0_isSameAsNext_17 (by decide) ?_
    refine r_iaddN dX0_isSameAsNext_18 ?_
    refine r_cV dX0_isSameAsNext_19 (s_codeAtD hn h7) lX0_47 rfl rfl rfl (by decide) ⟨Nat.le_refl _, Nat.le_refl _⟩ (Nat.le_of_ble_eq_true rfl) ?_
    refine r_icmp_ne 29 dX0_isSameAsNext_22 (by decide) (fun h22 => ?_) (fun h22 => ?_)
    · rw [show decide (i + 1 < n ∧ dc i = dc (i + 1)) = false from decide_eq_false (fun q => h22 q.2)]
      refine r_pc 29 rfl ?_
      refine r_iconst (v := (nI 0)) dX0_isSameAsNext_29 (by decide) ?_
      exact r_zret dX0_isSameAsNext_30 rfl rfl rfl rfl
    · rw [show decide (i + 1 < n ∧ dc i = dc (i + 1)) = true from decide_eq_true ⟨h7, h22⟩]
      refine r_pc 25 rfl ?_
      refine r_iconst (v := (nI 1)) dX0_isSameAsNext_25 (by decide) ?_
      refine r_goto 30 dX0_isSameAsNext_26 (by decide) ?_
      exact r_zret dX0_isSameAsNext_30 rfl rfl rfl rfl
theorem s_clearF : Sem mX1_clear 1 0 0 [.ref 19] (cW tb tl tc tn fc ff fs ft fu fw fy fd dc dp dq dn dm ec ep eq en em ik lr ln ly wh wr wf wb wn gz wc ws wa pw pf pl ta, R) none (cW tb tl tc tn fc ff fs ft fu fw fy fd dc dp dq dn dm ec ep eq en em ik lr (nI 0) (nI 0) wh wr wf wb wn gz wc ws wa pw pf pl ta, R) := by
  refine sem_of (by decide) (Nat.le_of_ble_eq_true rfl) rfl ?_
  refine r_aload_n dX1_clear_0 rfl ?_
  refine r_iconst (v := (nI 0)) dX1_clear_1 (by decide) ?_
  refine r_put (w2 := (cW _ _ _ _ _ _ _ _ _ _ _ _ _ _ _ _ _ _ _ _ _ _ _ _ _ _ _ _ _ _ _ _ _ _ _ _ _ _ _, _)) dX1_clear_2 fX1_15 rfl rfl (Nat.le_of_ble_eq_true rfl) (fun _ => rfl) (fun _ => rfl) rfl ?_
  refine r_aload_n dX1_clear_5 rfl ?_
  refine r_iconst (v := (nI 0)) dX1_clear_6 (by decide) ?_
  refine r_pc 7 rfl ?_
  refine r_put (w2 := (cW _ _ _ _ _ _ _ _ _ _ _ _ _ _ _ _ _ _ _ _ _ _ _ _ _ _ _ _ _ _ _ _ _ _ _ _ _ _ _, _)) dX1_clear_7 fX1_19 rfl rfl (Nat.le_of_ble_eq_true rfl) (fun _ => rfl) (fun _ => rfl) rfl ?_
  exact r_vret dX1_clear_10 rfl rfl rfl
theorem s_has {n i : Nat} (hn : n ≤ 8) (hi : i < 2 ^ 31) : Sem mX1_has 1 0 0 [.ref 19, .int (nI i)] (cW tb tl tc tn fc ff fs ft fu fw fy fd dc dp dq dn dm ec ep eq en em ik lr (nI n) ly wh wr wf wb wn gz wc ws wa pw pf pl ta, R) (some (.int (bI (decide (i < n))))) (cW tb tl tc tn fc ff fs ft fu fw fy fd dc dp dq dn dm ec ep eq en em ik lr (nI n) ly wh wr wf wb wn gz wc ws wa pw pf pl ta, R) := by
  refine sem_of (by decide) (Nat.le_of_ble_eq_true rfl) rfl ?_
  refine r_iload_n dX1_has_0 rfl ?_
  refine r_if_lt 16 dX1_has_1 (by decide) (fun h1 => ?_) (fun h1 => ?_)
  · exact absurd h1 (nI_pos (by omega))
  · refine r_pc 4 rfl ?_
    refine r_iload_n dX1_has_4 rfl ?_
    refine r_aload_n dX1_has_5 rfl ?_
    refine r_get dX1_has_6 fX1_15 rfl rfl ?_
    refine r_icmp_geN 16 dX1_has_9 (by decide) (by omega) (by omega) (fun h9 => ?_) (fun h9 => ?_)
    · have h9 : ¬ i < n := by omega
      refine r_pc 16 rfl ?_
      refine r_iconst (v := (nI 0)) dX1_has_16 (by decide) ?_
      exact r_zret dX1_has_17 rfl rfl (by simp [bI, h9]) rfl
    · refine r_pc 12 rfl ?_
      refine r_iconst (v := (nI 1)) dX1_has_12 (by decide) ?_
      refine r_goto 17 dX1_has_13 (by decide) ?_
      exact r_zret dX1_has_17 rfl rfl (by simp [bI, h9]) rfl
end D1
