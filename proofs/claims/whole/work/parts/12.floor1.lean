theorem s_facingOf (w : WD) (q : Int64) (d : Int32) : Sem mX3_facingOf 1 0 0 [.long q, .int d] w (some (.int ((q >>> ((nI 6 * d + nI 4).toInt64 &&& 63)).toInt32 &&& nI 3))) w := by
  refine sem_of (by decide) (Nat.le_of_ble_eq_true rfl) rfl ?_
  refine r_lload_n dX3_facingOf_0 rfl ?_
  refine r_bipush (v := (nI 6)) dX3_facingOf_1 (by decide) ?_
  refine r_iload_n dX3_facingOf_3 rfl ?_
  refine r_imul dX3_facingOf_4 ?_
  refine r_iconst (v := (nI 4)) dX3_facingOf_5 (by decide) ?_
  refine r_pc 6 rfl ?_
  refine r_iadd dX3_facingOf_6 ?_
  refine r_lshr dX3_facingOf_7 ?_
  refine r_l2i dX3_facingOf_8 ?_
  refine r_iconst (v := (nI 3)) dX3_facingOf_9 (by decide) ?_
  refine r_iand dX3_facingOf_10 ?_
  refine r_pc 11 rfl ?_
  exact r_iret dX3_facingOf_11 rfl rfl rfl
section F1
variable {x0 x1 x2 x3 : AE} {fc ff fs ft fu fw : Nat → Int32} {fy fd : Int32} {po : List AE}
variable {R : List AE} {c f : Nat → Nat}
theorem s_beside {d r : Nat} (hd : d < 8) (hr : r < 4) (hS : Sq fc ff c f) (hs : Sd fs c) : Sem mX2_beside 2 0 0 [.ref 4, .int (nI d), .int (nI r)] (cF x0 x1 x2 x3 fc ff fs ft fu fw fy fd po, R) (some (.int (stI (bes c f d r)))) (cF x0 x1 x2 x3 fc ff fs ft fu fw fy fd po, R) := by
  refine sem_of (by decide) (Nat.le_of_ble_eq_true rfl) rfl ?_
  obtain ⟨e1, h1, e2, h2⟩ := hS d hd
  have hm : (f d + r) % 4 < 4 := Nat.mod_lt _ (by decide)
  unfold bes
  refine r_aload_n dX2_beside_0 rfl ?_
  refine r_get dX2_beside_1 fX2_9 rfl rfl ?_
  refine r_iload_n dX2_beside_4 rfl ?_
  refine r_iald dX2_beside_5 rfl rfl hd (by decide) ?_
  refine r_pc 6 rfl ?_
  refine r_topi _ e1 ?_
  refine r_aload_n dX2_beside_6 rfl ?_
  refine r_get dX2_beside_7 fX2_15 rfl rfl ?_
  refine r_iload_n dX2_beside_10 rfl ?_
  refine r_iald dX2_beside_11 rfl rfl hd (by decide) ?_
  refine r_pc 12 rfl ?_
  refine r_topi _ e2 ?_
  refine r_iload_n dX2_beside_12 rfl ?_
  refine r_iaddN dX2_beside_13 ?_
  refine r_pc 14 rfl ?_
  refine r_cS dX2_beside_14 (s_neighbour _ (c d) (f d + r) h1 (by omega)) lX2_85 rfl rfl (by decide) ⟨Nat.le_refl _, Nat.le_refl _⟩ (Nat.le_of_ble_eq_true rfl) ?_
  refine r_topi _ (nbI_nb0 _ h1 _ hm) ?_
  refine r_istore_n (ls' := [_, _, _, _]) dX2_beside_17 (by decide) rfl ?_
  refine r_iload_n dX2_beside_18 rfl ?_
  refine r_iconst (v := (-1)) dX2_beside_19 (by decide) ?_
  refine r_pc 20 rfl ?_
  refine r_icmp_ne 27 dX2_beside_20 (by decide) (fun h20 => ?_) (fun h20 => ?_)
  · cases hn : nb (c d) ((f d + r) % 4) with
    | none => exact absurd (by rw [hn]; rfl) h20
    | some x =>
      have hx := nb_lt h1 hm hn
      refine r_aload_n dX2_beside_27 rfl ?_
      refine r_get dX2_beside_28 fX2_18 rfl rfl ?_
      refine r_iload_n dX2_beside_31 rfl ?_
      refine r_pc 32 rfl ?_
      refine r_topi (nI x) rfl ?_
      refine r_iald dX2_beside_32 rfl rfl hx (by decide) ?_
      refine r_pc 33 rfl ?_
      exact r_iret dX2_beside_33 rfl (by rw [hs x hx]) rfl
  · have hn : nb (c d) ((f d + r) % 4) = none := (stI_eq (fun x hx => by have := nb_lt h1 hm hx; omega)).mp h20
    rw [hn]
    refine r_iconst (v := (-1)) dX2_beside_23 (by decide) ?_
    refine r_goto 33 dX2_beside_24 (by decide) ?_
    exact r_iret dX2_beside_33 rfl rfl rfl
theorem s_facesLike {d : Nat} {o : Option Nat} (hd : d < 8) (ho : ∀ e, o = some e → e < 8) (hS : Sq fc ff c f) : Sem mX2_facesLike 1 0 0 [.ref 4, .int (nI d), .int (stI o)] (cF x0 x1 x2 x3 fc ff fs ft fu fw fy fd po, R) (some (.int (bI (lik f d o)))) (cF x0 x1 x2 x3 fc ff fs ft fu fw fy fd po, R) := by
  refine sem_of (by decide) (Nat.le_of_ble_eq_true rfl) rfl ?_
  obtain ⟨-, -, e1, h1⟩ := hS d hd
  cases o with
  | none =>
    refine r_iload_n dX2_facesLike_0 rfl ?_
    refine r_iconst (v := (-1)) dX2_facesLike_1 (by decide) ?_
    refine r_icmp_eq 24 dX2_facesLike_2 (by decide) (fun h2 => ?_) (fun h2 => ?_)
    · refine r_pc 24 rfl ?_
      refine r_iconst (v := (nI 0)) dX2_facesLike_24 (by decide) ?_
      exact r_zret dX2_facesLike_25 rfl rfl rfl rfl
    · exact absurd rfl h2
  | some e =>
    have he := ho e rfl
    obtain ⟨-, -, e2, h3⟩ := hS e he
    refine r_iload_n dX2_facesLike_0 rfl ?_
    refine r_iconst (v := (-1)) dX2_facesLike_1 (by decide) ?_
    refine r_icmp_eq 24 dX2_facesLike_2 (by decide) (fun h2 => ?_) (fun h2 => ?_)
    · exact absurd h2 (nI_m1 (by omega))
    · refine r_pc 5 rfl ?_
      refine r_aload_n dX2_facesLike_5 rfl ?_
      refine r_get dX2_facesLike_6 fX2_15 rfl rfl ?_
      refine r_iload_n dX2_facesLike_9 rfl ?_
      refine r_iald dX2_facesLike_10 rfl rfl he (by decide) ?_
      refine r_aload_n dX2_facesLike_11 rfl ?_
      refine r_pc 12 rfl ?_
      refine r_get dX2_facesLike_12 fX2_15 rfl rfl ?_
      refine r_iload_n dX2_facesLike_15 rfl ?_
      refine r_iald dX2_facesLike_16 rfl rfl hd (by decide) ?_
      refine r_icmp_ne 24 dX2_facesLike_17 (by decide) (fun h17 => ?_) (fun h17 => ?_)
      · have hq : ¬ f e = f d := fun q => h17 (by rw [e1, e2, q])
        refine r_pc 24 rfl ?_
        refine r_iconst (v := (nI 0)) dX2_facesLike_24 (by decide) ?_
        exact r_zret dX2_facesLike_25 rfl rfl (by simp [hq, bI, lik]) rfl
      · have hq : f e = f d := (nI_eq (by omega) (by omega)).mp (by rw [← e1, ← e2]; exact h17)
        refine r_pc 20 rfl ?_
        refine r_iconst (v := (nI 1)) dX2_facesLike_20 (by decide) ?_
        refine r_goto 25 dX2_facesLike_21 (by decide) ?_
        exact r_zret dX2_facesLike_25 rfl rfl (by simp [hq, bI, lik]) rfl
theorem s_isCenter (w : WD) {c : Nat} (hc : c < 16) : Sem mX2_isCenter 1 0 0 [.int (nI c)] w (some (.int (bI (cen c)))) w := by
  refine sem_of (by decide) (Nat.le_of_ble_eq_true rfl) rfl ?_
  refine r_iload_n dX2_isCenter_0 rfl ?_
  refine r_iconst (v := (nI 4)) dX2_isCenter_1 (by decide) ?_
  refine r_iremN dX2_isCenter_2 (by omega) (by decide) (by decide) ?_
  refine r_istore_n (ls' := [_, _, _]) dX2_isCenter_3 (by decide) rfl ?_
  refine r_iload_n dX2_isCenter_4 rfl ?_
  refine r_pc 5 rfl ?_
  refine r_iconst (v := (nI 4)) dX2_isCenter_5 (by decide) ?_
  refine r_idivN dX2_isCenter_6 (by omega) (by decide) (by decide) ?_
  refine r_istore_n (ls' := [_, _, _]) dX2_isCenter_7 (by decide) rfl ?_
  refine r_iload_n dX2_isCenter_8 rfl ?_
  refine r_iconst (v := (nI 1)) dX2_isCenter_9 (by decide) ?_
  refine r_pc 10 rfl ?_
  refine r_icmp_ltN 32 dX2_isCenter_10 (by decide) (by omega) (by omega) (fun h10 => ?_) (fun h10 => ?_)
  · refine r_pc 32 rfl ?_
    refine r_iconst (v := (nI 0)) dX2_isCenter_32 (by decide) ?_
    exact r_zret dX2_isCenter_33 rfl rfl (by first | rfl | (rw [show cen c = false from decide_eq_false (by omega)]; rfl)) rfl
  · refine r_pc 13 rfl ?_
    refine r_iload_n dX2_isCenter_13 rfl ?_
    refine r_iconst (v := (nI 2)) dX2_isCenter_14 (by decide) ?_
    refine r_icmp_gtN 32 dX2_isCenter_15 (by decide) (by omega) (by omega) (fun h15 => ?_) (fun h15 => ?_)
    · refine r_pc 32 rfl ?_
      refine r_iconst (v := (nI 0)) dX2_isCenter_32 (by decide) ?_
      exact r_zret dX2_isCenter_33 rfl rfl (by first | rfl | (rw [show cen c = false from decide_eq_false (by omega)]; rfl)) rfl
    · refine r_pc 18 rfl ?_
      refine r_iload_n dX2_isCenter_18 rfl ?_
      refine r_iconst (v := (nI 1)) dX2_isCenter_19 (by decide) ?_
      refine r_icmp_ltN 32 dX2_isCenter_20 (by decide) (by omega) (by omega) (fun h20 => ?_) (fun h20 => ?_)
      · refine r_pc 32 rfl ?_
        refine r_iconst (v := (nI 0)) dX2_isCenter_32 (by decide) ?_
        exact r_zret dX2_isCenter_33 rfl rfl (by first | rfl | (rw [show cen c = false from decide_eq_false (by omega)]; rfl)) rfl
      · refine r_pc 23 rfl ?_
        refine r_iload_n dX2_isCenter_23 rfl ?_
        refine r_iconst (v := (nI 2)) dX2_isCenter_24 (by decide) ?_
        refine r_icmp_gtN 32 dX2_isCenter_25 (by decide) (by omega) (by omega) (fun h25 => ?_) (fun h25 => ?_)
        · refine r_pc 32 rfl ?_
          refine r_iconst (v := (nI 0)) dX2_isCenter_32 (by decide) ?_
          exact r_zret dX2_isCenter_33 rfl rfl (by first | rfl | (rw [show cen c = false from decide_eq_false (by omega)]; rfl)) rfl
        · have hq : cen c = true := decide_eq_true (by omega)
          rw [hq]
          refine r_pc 28 rfl ?_
          refine r_iconst (v := (nI 1)) dX2_isCenter_28 (by decide) ?_
          refine r_goto 33 dX2_isCenter_29 (by decide) ?_
          exact r_zret dX2_isCenter_33 rfl rfl (by first | rfl | (rw [show cen c = false from decide_eq_false (by omega)]; rfl)) rfl
theorem s_goes {d : Nat} (hd : d < 8) : Sem mX2_goes 1 0 0 [.ref 4, .int (nI d)] (cF x0 x1 x2 x3 fc ff fs ft fu fw fy fd po, R) (some (.int (bI (decide (¬ ft d = fc d))))) (cF x0 x1 x2 x3 fc ff fs ft fu fw fy fd po, R) := by
  refine sem_of (by decide) (Nat.le_of_ble_eq_true rfl) rfl ?_
  refine r_aload_n dX2_goes_0 rfl ?_
  refine r_get dX2_goes_1 fX2_21 rfl rfl ?_
  refine r_iload_n dX2_goes_4 rfl ?_
  refine r_iald dX2_goes_5 rfl rfl hd (by decide) ?_
  refine r_aload_n dX2_goes_6 rfl ?_
  refine r_pc 7 rfl ?_
  refine r_get dX2_goes_7 fX2_9 rfl rfl ?_
  refine r_iload_n dX2_goes_10 rfl ?_
  refine r_iald dX2_goes_11 rfl rfl hd (by decide) ?_
  refine r_icmp_eq 19 dX2_goes_12 (by decide) (fun h12 => ?_) (fun h12 => ?_)
  · refine r_pc 19 rfl ?_
    refine r_iconst (v := (nI 0)) dX2_goes_19 (by decide) ?_
    exact r_zret dX2_goes_20 rfl rfl (by simp [h12, bI]) rfl
  · refine r_pc 15 rfl ?_
    refine r_iconst (v := (nI 1)) dX2_goes_15 (by decide) ?_
    refine r_goto 20 dX2_goes_16 (by decide) ?_
    exact r_zret dX2_goes_20 rfl rfl (by simp [h12, bI]) rfl
theorem s_turn {d r : Nat} (hd : d < 8) (hr : r < 4) (hS : Sq fc ff c f) : Sem mX2_turn 1 0 0 [.ref 4, .int (nI d), .int (nI r)] (cF x0 x1 x2 x3 fc ff fs ft fu fw fy fd po, R) none (cF x0 x1 x2 x3 fc ff fs ft (upd fu d (nI ((f d + r) % 4))) fw fy fd po, R) := by
  refine sem_of (by decide) (Nat.le_of_ble_eq_true rfl) rfl ?_
  obtain ⟨-, -, e1, h1⟩ := hS d hd
  refine r_aload_n dX2_turn_0 rfl ?_
  refine r_get dX2_turn_1 fX2_24 rfl rfl ?_
  refine r_iload_n dX2_turn_4 rfl ?_
  refine r_aload_n dX2_turn_5 rfl ?_
  refine r_get dX2_turn_6 fX2_15 rfl rfl ?_
  refine r_pc 9 rfl ?_
  refine r_iload_n dX2_turn_9 rfl ?_
  refine r_iald dX2_turn_10 rfl rfl hd (by decide) ?_
  refine r_pc 11 rfl ?_
  refine r_topi _ e1 ?_
  refine r_iload_n dX2_turn_11 rfl ?_
  refine r_iaddN dX2_turn_12 ?_
  refine r_iconst (v := (nI 4)) dX2_turn_13 (by decide) ?_
  refine r_iremN dX2_turn_14 (by omega) (by decide) (by decide) ?_
  refine r_iast (w2 := (cF _ _ _ _ _ _ _ _ _ _ _ _ _, _)) dX2_turn_15 rfl rfl hd (by decide) rfl ?_
  refine r_pc 16 rfl ?_
  exact r_vret dX2_turn_16 rfl rfl rfl
end F1
