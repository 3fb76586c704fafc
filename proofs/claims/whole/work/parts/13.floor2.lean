/-! ===== load ===== -/
def sqc (q : Int64) (d : Nat) : Nat := (q >>> ((nI (6 * d)).toInt64 &&& 63)).toInt32.toBitVec.toNat % 2 ^ 4
def sqf (q : Int64) (d : Nat) : Nat := (q >>> ((nI (6 * d + 4)).toInt64 &&& 63)).toInt32.toBitVec.toNat % 2 ^ 2
theorem sqc_lt (q : Int64) (d : Nat) : sqc q d < 16 := Nat.mod_lt _ (by decide)
theorem sqf_lt (q : Int64) (d : Nat) : sqf q d < 4 := Nat.mod_lt _ (by decide)
theorem sqc_eq (q : Int64) (d : Nat) : (q >>> ((nI 6 * nI d).toInt64 &&& 63)).toInt32 &&& nI 15 = nI (sqc q d) := by
  rw [pk_mul]
  exact pk_and _ 4 (by decide)
theorem sqf_eq (q : Int64) (d : Nat) : (q >>> ((nI 6 * nI d + nI 4).toInt64 &&& 63)).toInt32 &&& nI 3 = nI (sqf q d) := by
  rw [pk_mul, nI_add]
  exact pk_and _ 2 (by decide)
section F2
variable {x0 x1 x2 x3 : AE} {fc ff fs ft fu fw : Nat → Int32} {fy fd : Int32} {po : List AE}
variable {R : List AE} {c f : Nat → Nat}
theorem weq_F {fc' ff' fs' ft' fu' fw' : Nat → Int32} (h1 : ∀ j, j < 8 → fc j = fc' j) (h2 : ∀ j, j < 8 → ff j = ff' j) (h3 : ∀ j, j < 16 → fs j = fs' j) (h4 : ∀ j, j < 8 → ft j = ft' j) (h5 : ∀ j, j < 8 → fu j = fu' j) (h6 : ∀ j, j < 8 → fw j = fw' j) : weq (cF x0 x1 x2 x3 fc ff fs ft fu fw fy fd po, R) (cF x0 x1 x2 x3 (fc') (ff') (fs') (ft') (fu') (fw') fy fd po, R) :=
  ⟨⟨eeq_rf _, eeq_rf _, eeq_rf _, eeq_rf _, eeq_rf _, ⟨rfl, rfl, h1⟩, ⟨rfl, rfl, h2⟩, ⟨rfl, rfl, h3⟩, ⟨rfl, rfl, h4⟩, ⟨rfl, rfl, h5⟩, ⟨rfl, rfl, h6⟩, leq_rf _⟩, leq_rf _⟩
theorem s_load (q : Int64) : Sem mX2_load 2 0 0 [.ref 4, .long q] (cF x0 x1 x2 x3 fc ff fs ft fu fw fy fd po, R) none (cF x0 x1 x2 x3 (fun j => nI (sqc q j)) (fun j => nI (sqf q j)) (fun x => stI (who (sqc q) 8 x)) ft fu fw fy fd po, R) := by
  refine sem_of (by decide) (Nat.le_of_ble_eq_true rfl) rfl ?_
  generalize hw0 : (cF x0 x1 x2 x3 fc ff fs ft fu fw fy fd po, R) = w0
  have L2 : ∀ (n i : Nat) (fc ff fs : Nat → Int32) (x4 : Option Value), i + n = 8 → (∀ j, j < i → fc j = nI (sqc q j)) → (∀ j, j < i → ff j = nI (sqf q j)) → (∀ x, x < 16 → fs x = stI (who (sqc q) i x)) → Rn mX2_load 2 0 0 w0 none (cF x0 x1 x2 x3 (fun j => nI (sqc q j)) (fun j => nI (sqf q j)) (fun x => stI (who (sqc q) 8 x)) ft fu fw fy fd po, R) 0 0 23 [some (.ref 4), some (.long q), none, some (.int (nI i)), x4] [] (cF x0 x1 x2 x3 fc ff fs ft fu fw fy fd po, R) := by
    intro n
    induction n with
    | zero =>
      intro i fc ff fs x4 hi h1 h2 h3
      have : i = 8 := by omega
      subst this
      refine r_weq _ (weq_F h1 h2 h3 (fun _ _ => rfl) (fun _ _ => rfl) (fun _ _ => rfl)) ?_
      refine r_iload_n dX2_load_23 rfl ?_
      refine r_bipush (v := (nI 8)) dX2_load_24 (by decide) ?_
      refine r_icmp_geN 69 dX2_load_26 (by decide) (by omega) (by omega) (fun h26 => ?_) (fun h26 => ?_)
      · refine r_pc 69 rfl ?_
        exact r_vret dX2_load_69 rfl rfl rfl
      · exact absurd h26 (by omega)
    | succ n ih =>
      intro i fc ff fs x4 hi h1 h2 h3
      have hi8 : i < 8 := by omega
      refine r_iload_n dX2_load_23 rfl ?_
      refine r_bipush (v := (nI 8)) dX2_load_24 (by decide) ?_
      refine r_icmp_geN 69 dX2_load_26 (by decide) (by omega) (by omega) (fun h26 => ?_) (fun h26 => ?_)
      · exact absurd h26 (by omega)
      · refine r_pc 29 rfl ?_
        refine r_lload_n dX2_load_29 rfl ?_
        refine r_iload_n dX2_load_30 rfl ?_
        refine r_cS dX2_load_31 (s_cellOf _ q (nI i)) lX2_37 rfl rfl (by decide) ⟨Nat.le_refl _, Nat.le_refl _⟩ (Nat.le_of_ble_eq_true rfl) ?_
        refine r_topi _ (sqc_eq q i) ?_
        refine r_istore (ls' := [_, _, _, _, _]) dX2_load_34 (by decide) rfl ?_
        refine r_aload_n dX2_load_36 rfl ?_
        refine r_pc 37 rfl ?_
        refine r_get dX2_load_37 fX2_9 rfl rfl ?_
        refine r_iload_n dX2_load_40 rfl ?_
        refine r_iload dX2_load_41 rfl ?_
        refine r_iast (w2 := (cF _ _ _ _ _ _ _ _ _ _ _ _ _, _)) dX2_load_43 rfl rfl hi8 (by decide) rfl ?_
        refine r_aload_n dX2_load_44 rfl ?_
        refine r_pc 45 rfl ?_
        refine r_get dX2_load_45 fX2_15 rfl rfl ?_
        refine r_iload_n dX2_load_48 rfl ?_
        refine r_lload_n dX2_load_49 rfl ?_
        refine r_iload_n dX2_load_50 rfl ?_
        refine r_cS dX2_load_51 (s_facingOf _ q (nI i)) lX2_43 rfl rfl (by decide) ⟨Nat.le_refl _, Nat.le_refl _⟩ (Nat.le_of_ble_eq_true rfl) ?_
        refine r_pc 54 rfl ?_
        refine r_topi _ (sqf_eq q i) ?_
        refine r_iast (w2 := (cF _ _ _ _ _ _ _ _ _ _ _ _ _, _)) dX2_load_54 rfl rfl hi8 (by decide) rfl ?_
        refine r_aload_n dX2_load_55 rfl ?_
        refine r_get dX2_load_56 fX2_18 rfl rfl ?_
        refine r_iload dX2_load_59 rfl ?_
        refine r_iload_n dX2_load_61 rfl ?_
        refine r_pc 62 rfl ?_
        refine r_iast (w2 := (cF _ _ _ _ _ _ _ _ _ _ _ _ _, _)) dX2_load_62 rfl rfl (sqc_lt q i) (by decide) rfl ?_
        refine r_inc1 (ls' := [_, _, _, _, _]) dX2_load_63 (by decide) rfl rfl ?_
        refine r_goto 23 dX2_load_66 (by decide) ?_
        refine r_pc 23 rfl ?_
        exact ih (i + 1) _ _ _ _ (by omega) (upd_lt h1 rfl) (upd_lt h2 rfl) (who_step h3)
  have L1 : ∀ (n i : Nat) (fs : Nat → Int32), i + n = 16 → (∀ j, j < i → fs j = -1) → Rn mX2_load 2 0 0 w0 none (cF x0 x1 x2 x3 (fun j => nI (sqc q j)) (fun j => nI (sqf q j)) (fun x => stI (who (sqc q) 8 x)) ft fu fw fy fd po, R) 0 0 2 [some (.ref 4), some (.long q), none, some (.int (nI i)), none] [] (cF x0 x1 x2 x3 fc ff fs ft fu fw fy fd po, R) := by
    intro n
    induction n with
    | zero =>
      intro i fs hi h1
      refine r_iload_n dX2_load_2 rfl ?_
      refine r_bipush (v := (nI 16)) dX2_load_3 (by decide) ?_
      refine r_icmp_geN 21 dX2_load_5 (by decide) (by omega) (by omega) (fun h5 => ?_) (fun h5 => ?_)
      · refine r_pc 21 rfl ?_
        refine r_iconst (v := (nI 0)) dX2_load_21 (by decide) ?_
        refine r_istore_n (ls' := [_, _, _, _, _]) dX2_load_22 (by decide) rfl ?_
        refine r_pc 23 rfl ?_
        exact L2 8 0 _ _ _ _ (by omega) (fun j h => absurd h (by omega)) (fun j h => absurd h (by omega)) (fun x hx => h1 x (by omega))
      · exact absurd h5 (by omega)
    | succ n ih =>
      intro i fs hi h1
      refine r_iload_n dX2_load_2 rfl ?_
      refine r_bipush (v := (nI 16)) dX2_load_3 (by decide) ?_
      refine r_icmp_geN 21 dX2_load_5 (by decide) (by omega) (by omega) (fun h5 => ?_) (fun h5 => ?_)
      · exact absurd h5 (by omega)
      · refine r_pc 8 rfl ?_
        refine r_aload_n dX2_load_8 rfl ?_
        refine r_get dX2_load_9 fX2_18 rfl rfl ?_
        refine r_iload_n dX2_load_12 rfl ?_
        refine r_iconst (v := (-1)) dX2_load_13 (by decide) ?_
        refine r_iast (w2 := (cF _ _ _ _ _ _ _ _ _ _ _ _ _, _)) dX2_load_14 rfl rfl (by omega) (by decide) rfl ?_
        refine r_pc 15 rfl ?_
        refine r_inc1 (ls' := [_, _, _, _, _]) dX2_load_15 (by decide) rfl rfl ?_
        refine r_goto 2 dX2_load_18 (by decide) ?_
        refine r_pc 2 rfl ?_
        exact ih (i + 1) _ (by omega) (upd_lt (g := fun _ => -1) h1 rfl)
  subst hw0
  refine r_iconst (v := (nI 0)) dX2_load_0 (by decide) ?_
  refine r_istore_n (ls' := [_, _, _, _, _]) dX2_load_1 (by decide) rfl ?_
  refine r_pc 2 rfl ?_
  exact L1 16 0 _ (by omega) (fun j h => absurd h (by omega))
end F2
