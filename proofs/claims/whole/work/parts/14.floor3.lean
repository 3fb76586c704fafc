section F3
variable {x0 x1 x2 x3 : AE} {fc ff fs ft fu fw : Nat → Int32} {fy fd : Int32} {po : List AE}
variable {R : List AE} {c f : Nat → Nat}
theorem s_isMeant {d n : Nat} (hd : d < 8) (hn : n < 9) (hS : Sq fc ff c f) (hs : Sd fs c) : Sem mX2_isMeant 3 0 0 [.ref 4, .int (nI d), .int (nI n)] (cF x0 x1 x2 x3 fc ff fs ft fu fw fy fd po, R) (some (.int (bI (mnt c f n d)))) (cF x0 x1 x2 x3 fc ff fs ft fu fw fy fd po, R) := by
  refine sem_of (by decide) (Nat.le_of_ble_eq_true rfl) rfl ?_
  obtain ⟨e1, h1, e2, h2⟩ := hS d hd
  match n, hn with
  | 0, _ =>
    refine r_iload_n dX2_isMeant_0 rfl ?_
    refine r_tabIn 52 dX2_isMeant_1 (by decide) (by decide) rfl (by decide) ?_
    refine r_iconst (v := (nI 1)) dX2_isMeant_52 (by decide) ?_
    exact r_zret dX2_isMeant_53 rfl rfl rfl rfl
  | 1, _ =>
    refine r_iload_n dX2_isMeant_0 rfl ?_
    refine r_tabIn 54 dX2_isMeant_1 (by decide) (by decide) rfl (by decide) ?_
    refine r_iload_n dX2_isMeant_54 rfl ?_
    refine r_iconst (v := (nI 2)) dX2_isMeant_55 (by decide) ?_
    refine r_idivN dX2_isMeant_56 (by omega) (by decide) (by decide) ?_
    refine r_pc 57 rfl ?_
    refine r_iconst (v := (nI 2)) dX2_isMeant_57 (by decide) ?_
    refine r_iremN dX2_isMeant_58 (by omega) (by decide) (by decide) ?_
    refine r_if_ne 66 dX2_isMeant_59 (by decide) (fun h59 => ?_) (fun h59 => ?_)
    · have hq : ¬ d / 2 % 2 = 0 := fun q => h59 (by rw [q]; rfl)
      refine r_pc 66 rfl ?_
      refine r_iconst (v := (nI 0)) dX2_isMeant_66 (by decide) ?_
      exact r_zret dX2_isMeant_67 rfl rfl (by simp [mnt, hq, bI]) rfl
    · have hq : d / 2 % 2 = 0 := (nI_eq (by omega) (by omega)).mp h59
      refine r_pc 62 rfl ?_
      refine r_iconst (v := (nI 1)) dX2_isMeant_62 (by decide) ?_
      refine r_goto 67 dX2_isMeant_63 (by decide) ?_
      exact r_zret dX2_isMeant_67 rfl rfl (by simp [mnt, hq, bI]) rfl
  | 2, _ =>
    refine r_iload_n dX2_isMeant_0 rfl ?_
    refine r_tabIn 68 dX2_isMeant_1 (by decide) (by decide) rfl (by decide) ?_
    refine r_iload_n dX2_isMeant_68 rfl ?_
    refine r_iconst (v := (nI 2)) dX2_isMeant_69 (by decide) ?_
    refine r_idivN dX2_isMeant_70 (by omega) (by decide) (by decide) ?_
    refine r_pc 71 rfl ?_
    refine r_iconst (v := (nI 2)) dX2_isMeant_71 (by decide) ?_
    refine r_iremN dX2_isMeant_72 (by omega) (by decide) (by decide) ?_
    refine r_iconst (v := (nI 1)) dX2_isMeant_73 (by decide) ?_
    refine r_icmp_neN 81 dX2_isMeant_74 (by decide) (by omega) (by omega) (fun h74 => ?_) (fun h74 => ?_)
    · refine r_pc 81 rfl ?_
      refine r_iconst (v := (nI 0)) dX2_isMeant_81 (by decide) ?_
      exact r_zret dX2_isMeant_82 rfl rfl (by simp [mnt, h74, bI]) rfl
    · refine r_pc 77 rfl ?_
      refine r_iconst (v := (nI 1)) dX2_isMeant_77 (by decide) ?_
      refine r_goto 82 dX2_isMeant_78 (by decide) ?_
      exact r_zret dX2_isMeant_82 rfl rfl (by simp [mnt, h74, bI]) rfl
  | 3, _ =>
    refine r_iload_n dX2_isMeant_0 rfl ?_
    refine r_tabIn 83 dX2_isMeant_1 (by decide) (by decide) rfl (by decide) ?_
    refine r_iload_n dX2_isMeant_83 rfl ?_
    refine r_iconst (v := (nI 2)) dX2_isMeant_84 (by decide) ?_
    refine r_iremN dX2_isMeant_85 (by omega) (by decide) (by decide) ?_
    refine r_pc 86 rfl ?_
    refine r_if_ne 93 dX2_isMeant_86 (by decide) (fun h86 => ?_) (fun h86 => ?_)
    · have hq : ¬ d % 2 = 0 := fun q => h86 (by rw [q]; rfl)
      refine r_pc 93 rfl ?_
      refine r_iconst (v := (nI 0)) dX2_isMeant_93 (by decide) ?_
      exact r_zret dX2_isMeant_94 rfl rfl (by simp [mnt, hq, bI]) rfl
    · have hq : d % 2 = 0 := (nI_eq (by omega) (by omega)).mp h86
      refine r_pc 89 rfl ?_
      refine r_iconst (v := (nI 1)) dX2_isMeant_89 (by decide) ?_
      refine r_goto 94 dX2_isMeant_90 (by decide) ?_
      exact r_zret dX2_isMeant_94 rfl rfl (by simp [mnt, hq, bI]) rfl
  | 4, _ =>
    refine r_iload_n dX2_isMeant_0 rfl ?_
    refine r_tabIn 95 dX2_isMeant_1 (by decide) (by decide) rfl (by decide) ?_
    refine r_iload_n dX2_isMeant_95 rfl ?_
    refine r_iconst (v := (nI 2)) dX2_isMeant_96 (by decide) ?_
    refine r_iremN dX2_isMeant_97 (by omega) (by decide) (by decide) ?_
    refine r_pc 98 rfl ?_
    refine r_iconst (v := (nI 1)) dX2_isMeant_98 (by decide) ?_
    refine r_icmp_neN 106 dX2_isMeant_99 (by decide) (by omega) (by omega) (fun h99 => ?_) (fun h99 => ?_)
    · refine r_pc 106 rfl ?_
      refine r_iconst (v := (nI 0)) dX2_isMeant_106 (by decide) ?_
      exact r_zret dX2_isMeant_107 rfl rfl (by simp [mnt, h99, bI]) rfl
    · refine r_pc 102 rfl ?_
      refine r_iconst (v := (nI 1)) dX2_isMeant_102 (by decide) ?_
      refine r_goto 107 dX2_isMeant_103 (by decide) ?_
      exact r_zret dX2_isMeant_107 rfl rfl (by simp [mnt, h99, bI]) rfl
  | 5, _ =>
    refine r_iload_n dX2_isMeant_0 rfl ?_
    refine r_tabIn 108 dX2_isMeant_1 (by decide) (by decide) rfl (by decide) ?_
    refine r_aload_n dX2_isMeant_108 rfl ?_
    refine r_get dX2_isMeant_109 fX2_9 rfl rfl ?_
    refine r_iload_n dX2_isMeant_112 rfl ?_
    refine r_pc 113 rfl ?_
    refine r_iald dX2_isMeant_113 rfl rfl hd (by decide) ?_
    refine r_topi _ e1 ?_
    refine r_cS dX2_isMeant_114 (s_isCenter _ h1) lX2_116 rfl rfl (by decide) ⟨Nat.le_refl _, Nat.le_refl _⟩ (Nat.le_of_ble_eq_true rfl) ?_
    exact r_zret dX2_isMeant_117 rfl (by cases cen (c d) <;> rfl) rfl rfl
  | 6, _ =>
    refine r_iload_n dX2_isMeant_0 rfl ?_
    refine r_tabIn 118 dX2_isMeant_1 (by decide) (by decide) rfl (by decide) ?_
    refine r_aload_n dX2_isMeant_118 rfl ?_
    refine r_get dX2_isMeant_119 fX2_9 rfl rfl ?_
    refine r_iload_n dX2_isMeant_122 rfl ?_
    refine r_pc 123 rfl ?_
    refine r_iald dX2_isMeant_123 rfl rfl hd (by decide) ?_
    refine r_topi _ e1 ?_
    refine r_cS dX2_isMeant_124 (s_isCenter _ h1) lX2_116 rfl rfl (by decide) ⟨Nat.le_refl _, Nat.le_refl _⟩ (Nat.le_of_ble_eq_true rfl) ?_
    refine r_if_ne 134 dX2_isMeant_127 (by decide) (fun h127 => ?_) (fun h127 => ?_)
    · have hq : cen (c d) = true := by cases h : cen (c d) with | true => rfl | false => rw [h] at h127; exact absurd rfl h127
      refine r_pc 134 rfl ?_
      refine r_iconst (v := (nI 0)) dX2_isMeant_134 (by decide) ?_
      exact r_zret dX2_isMeant_135 rfl rfl (by simp [mnt, hq, bI]) rfl
    · have hq : cen (c d) = false := by cases h : cen (c d) with | false => rfl | true => rw [h] at h127; exact absurd h127 (by decide)
      refine r_pc 130 rfl ?_
      refine r_iconst (v := (nI 1)) dX2_isMeant_130 (by decide) ?_
      refine r_goto 135 dX2_isMeant_131 (by decide) ?_
      exact r_zret dX2_isMeant_135 rfl rfl (by simp [mnt, hq, bI]) rfl
  | 7, _ =>
    refine r_iload_n dX2_isMeant_0 rfl ?_
    refine r_tabIn 136 dX2_isMeant_1 (by decide) (by decide) rfl (by decide) ?_
    refine r_aload_n dX2_isMeant_136 rfl ?_
    refine r_iload_n dX2_isMeant_137 rfl ?_
    refine r_aload_n dX2_isMeant_138 rfl ?_
    refine r_pc 139 rfl ?_
    refine r_iload_n dX2_isMeant_139 rfl ?_
    refine r_iconst (v := (nI 3)) dX2_isMeant_140 (by decide) ?_
    refine r_cV dX2_isMeant_141 (s_beside hd (by decide) hS hs) lX2_103 rfl rfl rfl (by decide) ⟨Nat.le_refl _, Nat.le_refl _⟩ (Nat.le_of_ble_eq_true rfl) ?_
    refine r_cV dX2_isMeant_144 (s_facesLike hd (fun e he => bes_lt he) hS) lX2_119 rfl rfl rfl (by decide) ⟨Nat.le_refl _, Nat.le_refl _⟩ (Nat.le_of_ble_eq_true rfl) ?_
    exact r_zret dX2_isMeant_147 rfl (by cases lik f d (bes c f d 3) <;> rfl) rfl rfl
  | 8, _ =>
    refine r_iload_n dX2_isMeant_0 rfl ?_
    refine r_tabIn 148 dX2_isMeant_1 (by decide) (by decide) rfl (by decide) ?_
    refine r_aload_n dX2_isMeant_148 rfl ?_
    refine r_iload_n dX2_isMeant_149 rfl ?_
    refine r_aload_n dX2_isMeant_150 rfl ?_
    refine r_pc 151 rfl ?_
    refine r_iload_n dX2_isMeant_151 rfl ?_
    refine r_iconst (v := (nI 1)) dX2_isMeant_152 (by decide) ?_
    refine r_cV dX2_isMeant_153 (s_beside hd (by decide) hS hs) lX2_103 rfl rfl rfl (by decide) ⟨Nat.le_refl _, Nat.le_refl _⟩ (Nat.le_of_ble_eq_true rfl) ?_
    refine r_cV dX2_isMeant_156 (s_facesLike hd (fun e he => bes_lt he) hS) lX2_119 rfl rfl rfl (by decide) ⟨Nat.le_refl _, Nat.le_refl _⟩ (Nat.le_of_ble_eq_true rfl) ?_
    exact r_zret dX2_isMeant_159 rfl (by cases lik f d (bes c f d 1) <;> rfl) rfl rfl
theorem s_meantBy {n : Nat} (hn : n < 9) (hS : Sq fc ff c f) (hs : Sd fs c) : Sem mX2_meantBy 4 0 0 [.ref 4, .int (nI n)] (cF x0 x1 x2 x3 fc ff fs ft fu fw fy fd po, R) (some (.int (mbI (mnt c f n) 8))) (cF x0 x1 x2 x3 fc ff fs ft fu fw fy fd po, R) := by
  refine sem_of (by decide) (Nat.le_of_ble_eq_true rfl) rfl ?_
  have L : ∀ (m i : Nat), i + m = 8 → Rn mX2_meantBy 4 0 0 (cF x0 x1 x2 x3 fc ff fs ft fu fw fy fd po, R) (some (.int (mbI (mnt c f n) 8))) (cF x0 x1 x2 x3 fc ff fs ft fu fw fy fd po, R) 0 0 4 [some (.ref 4), some (.int (nI n)), some (.int (mbI (mnt c f n) i)), some (.int (nI i))] [] (cF x0 x1 x2 x3 fc ff fs ft fu fw fy fd po, R) := by
    intro m
    induction m with
    | zero =>
      intro i hi
      have : i = 8 := by omega
      subst this
      refine r_iload_n dX2_meantBy_4 rfl ?_
      refine r_bipush (v := (nI 8)) dX2_meantBy_5 (by decide) ?_
      refine r_icmp_geN 31 dX2_meantBy_7 (by decide) (by omega) (by omega) (fun h7 => ?_) (fun h7 => ?_)
      · refine r_pc 31 rfl ?_
        refine r_iload_n dX2_meantBy_31 rfl ?_
        exact r_iret dX2_meantBy_32 rfl rfl rfl
      · exact absurd h7 (by omega)
    | succ m ih =>
      intro i hi
      have hi8 : i < 8 := by omega
      have ih := ih (i + 1) (by omega)
      unfold mbI at ih
      cases hm : mnt c f n i with
      | true =>
        rw [hm] at ih
        refine r_iload_n dX2_meantBy_4 rfl ?_
        refine r_bipush (v := (nI 8)) dX2_meantBy_5 (by decide) ?_
        refine r_icmp_geN 31 dX2_meantBy_7 (by decide) (by omega) (by omega) (fun h7 => ?_) (fun h7 => ?_)
        · exact absurd h7 (by omega)
        · refine r_pc 10 rfl ?_
          refine r_aload_n dX2_meantBy_10 rfl ?_
          refine r_iload_n dX2_meantBy_11 rfl ?_
          refine r_iload_n dX2_meantBy_12 rfl ?_
          refine r_cV dX2_meantBy_13 (s_isMeant hi8 hn hS hs) lX2_113 rfl rfl rfl (by decide) ⟨Nat.le_refl _, Nat.le_refl _⟩ (Nat.le_of_ble_eq_true rfl) ?_
          rw [hm]
          refine r_if_eq 25 dX2_meantBy_16 (by decide) (fun h16 => ?_) (fun h16 => ?_)
          · exact absurd h16 (by decide)
          · refine r_pc 19 rfl ?_
            refine r_iload_n dX2_meantBy_19 rfl ?_
            refine r_iconst (v := (nI 1)) dX2_meantBy_20 (by decide) ?_
            refine r_iload_n dX2_meantBy_21 rfl ?_
            refine r_ishl dX2_meantBy_22 ?_
            refine r_ior dX2_meantBy_23 ?_
            refine r_pc 24 rfl ?_
            refine r_istore_n (ls' := [_, _, _, _]) dX2_meantBy_24 (by decide) rfl ?_
            refine r_inc1 (ls' := [_, _, _, _]) dX2_meantBy_25 (by decide) rfl rfl ?_
            refine r_goto 4 dX2_meantBy_28 (by decide) ?_
            refine r_pc 4 rfl ?_
            exact ih
      | false =>
        rw [hm] at ih
        refine r_iload_n dX2_meantBy_4 rfl ?_
        refine r_bipush (v := (nI 8)) dX2_meantBy_5 (by decide) ?_
        refine r_icmp_geN 31 dX2_meantBy_7 (by decide) (by omega) (by omega) (fun h7 => ?_) (fun h7 => ?_)
        · exact absurd h7 (by omega)
        · refine r_pc 10 rfl ?_
          refine r_aload_n dX2_meantBy_10 rfl ?_
          refine r_iload_n dX2_meantBy_11 rfl ?_
          refine r_iload_n dX2_meantBy_12 rfl ?_
          refine r_cV dX2_meantBy_13 (s_isMeant hi8 hn hS hs) lX2_113 rfl rfl rfl (by decide) ⟨Nat.le_refl _, Nat.le_refl _⟩ (Nat.le_of_ble_eq_true rfl) ?_
          rw [hm]
          refine r_if_eq 25 dX2_meantBy_16 (by decide) (fun h16 => ?_) (fun h16 => ?_)
          · refine r_pc 25 rfl ?_
            refine r_inc1 (ls' := [_, _, _, _]) dX2_meantBy_25 (by decide) rfl rfl ?_
            refine r_goto 4 dX2_meantBy_28 (by decide) ?_
            refine r_pc 4 rfl ?_
            exact ih
          · exact absurd rfl h16
  refine r_iconst (v := (nI 0)) dX2_meantBy_0 (by decide) ?_
  refine r_istore_n (ls' := [_, _, _, _]) dX2_meantBy_1 (by decide) rfl ?_
  refine r_iconst (v := (nI 0)) dX2_meantBy_2 (by decide) ?_
  refine r_istore_n (ls' := [_, _, _, _]) dX2_meantBy_3 (by decide) rfl ?_
  refine r_pc 4 rfl ?_
  exact L 8 0 (by omega)
theorem s_startPlan : Sem mX2_startPlan 1 0 0 [.ref 4] (cF x0 x1 x2 x3 fc ff fs ft fu fw fy fd po, R) none (cF x0 x1 x2 x3 fc ff fs (fc) (ff) (fun _ => nI 0) (nI 0) (nI 0) po, R) := by
  refine sem_of (by decide) (Nat.le_of_ble_eq_true rfl) rfl ?_
  generalize hw0 : (cF x0 x1 x2 x3 fc ff fs ft fu fw fy fd po, R) = w0
  have L : ∀ (m i : Nat) (ft fu fw : Nat → Int32), i + m = 8 → (∀ j, j < i → ft j = fc j) → (∀ j, j < i → fu j = ff j) → (∀ j, j < i → fw j = nI 0) → Rn mX2_startPlan 1 0 0 w0 none (cF x0 x1 x2 x3 fc ff fs (fc) (ff) (fun _ => nI 0) (nI 0) (nI 0) po, R) 0 0 2 [some (.ref 4), some (.int (nI i))] [] (cF x0 x1 x2 x3 fc ff fs ft fu fw fy fd po, R) := by
    intro m
    induction m with
    | zero =>
      intro i ft fu fw hi h1 h2 h3
      have : i = 8 := by omega
      subst this
      refine r_weq _ (weq_F (fun _ _ => rfl) (fun _ _ => rfl) (fun _ _ => rfl) h1 h2 h3) ?_
      refine r_iload_n dX2_startPlan_2 rfl ?_
      refine r_bipush (v := (nI 8)) dX2_startPlan_3 (by decide) ?_
      refine r_icmp_geN 45 dX2_startPlan_5 (by decide) (by omega) (by omega) (fun h5 => ?_) (fun h5 => ?_)
      · refine r_pc 45 rfl ?_
        refine r_aload_n dX2_startPlan_45 rfl ?_
        refine r_iconst (v := (nI 0)) dX2_startPlan_46 (by decide) ?_
        refine r_put (w2 := (cF _ _ _ _ _ _ _ _ _ _ _ _ _, _)) dX2_startPlan_47 fX2_30 rfl rfl (Nat.le_of_ble_eq_true rfl) (fun _ => rfl) (fun _ => rfl) rfl ?_
        refine r_aload_n dX2_startPlan_50 rfl ?_
        refine r_iconst (v := (nI 0)) dX2_startPlan_51 (by decide) ?_
        refine r_pc 52 rfl ?_
        refine r_put (w2 := (cF _ _ _ _ _ _ _ _ _ _ _ _ _, _)) dX2_startPlan_52 fX2_34 rfl rfl (Nat.le_of_ble_eq_true rfl) (fun _ => rfl) (fun _ => rfl) rfl ?_
        exact r_vret dX2_startPlan_55 rfl rfl rfl
      · exact absurd h5 (by omega)
    | succ m ih =>
      intro i ft fu fw hi h1 h2 h3
      have hi8 : i < 8 := by omega
      refine r_iload_n dX2_startPlan_2 rfl ?_
      refine r_bipush (v := (nI 8)) dX2_startPlan_3 (by decide) ?_
      refine r_icmp_geN 45 dX2_startPlan_5 (by decide) (by omega) (by omega) (fun h5 => ?_) (fun h5 => ?_)
      · exact absurd h5 (by omega)
      · refine r_pc 8 rfl ?_
        refine r_aload_n dX2_startPlan_8 rfl ?_
        refine r_get dX2_startPlan_9 fX2_21 rfl rfl ?_
        refine r_iload_n dX2_startPlan_12 rfl ?_
        refine r_aload_n dX2_startPlan_13 rfl ?_
        refine r_get dX2_startPlan_14 fX2_9 rfl rfl ?_
        refine r_pc 17 rfl ?_
        refine r_iload_n dX2_startPlan_17 rfl ?_
        refine r_iald dX2_startPlan_18 rfl rfl hi8 (by decide) ?_
        refine r_iast (w2 := (cF _ _ _ _ _ _ _ _ _ _ _ _ _, _)) dX2_startPlan_19 rfl rfl hi8 (by decide) rfl ?_
        refine r_aload_n dX2_startPlan_20 rfl ?_
        refine r_get dX2_startPlan_21 fX2_24 rfl rfl ?_
        refine r_pc 24 rfl ?_
        refine r_iload_n dX2_startPlan_24 rfl ?_
        refine r_aload_n dX2_startPlan_25 rfl ?_
        refine r_get dX2_startPlan_26 fX2_15 rfl rfl ?_
        refine r_iload_n dX2_startPlan_29 rfl ?_
        refine r_iald dX2_startPlan_30 rfl rfl hi8 (by decide) ?_
        refine r_pc 31 rfl ?_
        refine r_iast (w2 := (cF _ _ _ _ _ _ _ _ _ _ _ _ _, _)) dX2_startPlan_31 rfl rfl hi8 (by decide) rfl ?_
        refine r_aload_n dX2_startPlan_32 rfl ?_
        refine r_get dX2_startPlan_33 fX2_27 rfl rfl ?_
        refine r_iload_n dX2_startPlan_36 rfl ?_
        refine r_iconst (v := (nI 0)) dX2_startPlan_37 (by decide) ?_
        refine r_pc 38 rfl ?_
        refine r_iast (w2 := (cF _ _ _ _ _ _ _ _ _ _ _ _ _, _)) dX2_startPlan_38 rfl rfl hi8 (by decide) rfl ?_
        refine r_inc1 (ls' := [_, _]) dX2_startPlan_39 (by decide) rfl rfl ?_
        refine r_goto 2 dX2_startPlan_42 (by decide) ?_
        refine r_pc 2 rfl ?_
        exact ih (i + 1) _ _ _ (by omega) (upd_lt h1 rfl) (upd_lt h2 rfl) (upd_lt (g := fun _ => nI 0) h3 rfl)
  subst hw0
  refine r_iconst (v := (nI 0)) dX2_startPlan_0 (by decide) ?_
  refine r_istore_n (ls' := [_, _]) dX2_startPlan_1 (by decide) rfl ?_
  refine r_pc 2 rfl ?_
  exact L 8 0 _ _ _ (by omega) (fun j h => absurd h (by omega)) (fun j h => absurd h (by omega)) (fun j h => absurd h (by omega))
end F3
