/-! ===== ring, and a whole call planned ===== -/
theorem pig : ∀ (n : Nat) (g : Nat → Nat), (∀ i, i < n → g i < n) → (∀ i, i < n → ∀ j, j < n → g i = g j → i = j) → ∀ d, d < n → ∃ i, i < n ∧ g i = d := by
  intro n
  induction n with
  | zero => intro g _ _ d hd; exact absurd hd (by omega)
  | succ n ih =>
    intro g hg hi d hd
    have hg' : ∀ i, i < n → (if g i = n then g n else g i) < n := by
      intro i h
      have h1 := hg i (by omega)
      have h2 := hg n (by omega)
      by_cases e : g i = n
      · rw [if_pos e]
        have : g n ≠ n := fun q => by have := hi i (by omega) n (by omega) (by rw [e, q]); omega
        omega
      · rw [if_neg e]; omega
    have hi' : ∀ i, i < n → ∀ j, j < n → (if g i = n then g n else g i) = (if g j = n then g n else g j) → i = j := by
      intro i h j h2 q
      by_cases e : g i = n
      · by_cases e2 : g j = n
        · exact hi i (by omega) j (by omega) (by rw [e, e2])
        · rw [if_pos e, if_neg e2] at q
          have := hi n (by omega) j (by omega) q
          omega
      · by_cases e2 : g j = n
        · rw [if_neg e, if_pos e2] at q
          have := hi i (by omega) n (by omega) q
          omega
        · rw [if_neg e, if_neg e2] at q
          exact hi i (by omega) j (by omega) q
    have S := ih (fun i => if g i = n then g n else g i) hg' hi'
    by_cases e1 : g n = d
    · exact ⟨n, by omega, e1⟩
    · by_cases e2 : d = n
      · have hm : g n < n := by have := hg n (by omega); omega
        obtain ⟨i, h1, h2⟩ := S (g n) hm
        by_cases e3 : g i = n
        · exact ⟨i, by omega, by rw [e3, e2]⟩
        · rw [if_neg e3] at h2
          have := hi i (by omega) n (by omega) h2
          omega
      · obtain ⟨i, h1, h2⟩ := S d (by omega)
        by_cases e3 : g i = n
        · rw [if_pos e3] at h2
          exact absurd h2 e1
        · rw [if_neg e3] at h2
          exact ⟨i, by omega, h2⟩
theorem who_some {c : Nat → Nat} : ∀ {n x d : Nat}, who c n x = some d → c d = x
  | 0, x, d, h => by simp [who] at h
  | n + 1, x, d, h => by
    unfold who at h
    split at h
    · cases h; assumption
    · exact who_some h
theorem who_none {c : Nat → Nat} : ∀ {n x : Nat}, who c n x = none → ∀ d, d < n → ¬ c d = x
  | 0, x, h, d, hd => absurd hd (by omega)
  | n + 1, x, h, d, hd => by
    unfold who at h
    split at h
    · cases h
    · rename_i hc
      by_cases e : d = n
      · subst e; exact hc
      · exact who_none h d (by omega)
def Inj (c : Nat → Nat) : Prop := ∀ i, i < 8 → ∀ j, j < 8 → c i = c j → i = j
theorem who_inj {c : Nat → Nat} (hi : Inj c) {d : Nat} (hd : d < 8) : who c 8 (c d) = some d := by
  cases h : who c 8 (c d) with
  | none => exact absurd rfl (who_none h d hd)
  | some e => rw [hi e (who_lt h) d hd (who_some h)]
theorem ringB_at {c : Nat → Nat} : ∀ {n : Nat}, ringB c n = true → ∀ i, i < n → ∃ d, who c 8 (HC i) = some d
  | 0, _, i, hi => absurd hi (by omega)
  | n + 1, h, i, hi => by
    have h1 : (ringB c n && (who c 8 (HC n)).isSome) = true := h
    rw [Bool.and_eq_true] at h1
    by_cases e : i = n
    · subst e
      exact Option.isSome_iff_exists.mp h1.2
    · exact ringB_at h1.1 i (by omega)
/-- in a ring everybody stands on one of the eight cells -/
theorem ring_all {c : Nat → Nat} (h : ringB c 8 = true) {d : Nat} (hd : d < 8) : ∃ i, i < 8 ∧ c d = HC i := by
  have h1 := ringB_at h
  have hg : ∀ i, i < 8 → who c 8 (HC i) = some ((who c 8 (HC i)).getD 0) := by
    intro i hi
    obtain ⟨e, he⟩ := h1 i hi
    rw [he]; rfl
  obtain ⟨i, hi, e⟩ := pig 8 (fun i => (who c 8 (HC i)).getD 0) (fun i hi => who_lt (hg i hi)) (fun i hi j hj q => HC_inj i hi j hj (by
    have a := who_some (hg i hi)
    have b := who_some (hg j hj)
    rw [q] at a
    exact a.symm.trans b)) d hd
  refine ⟨i, hi, ?_⟩
  have a := who_some (hg i hi)
  rw [e] at a
  exact a
def pl (x : Nat) : Nat := [9, 0, 1, 9, 7, 9, 9, 2, 6, 9, 9, 3, 9, 5, 4, 9].getD x 9
theorem pl_HC : ∀ i, i < 8 → pl (HC i) = i := by decide +kernel
def allB (p : Nat → Bool) : Nat → Bool
  | 0 => true
  | n + 1 => allB p n && p n
theorem mb_alls : ∀ b0 b1 b2 b3 b4 b5 b6 b7 : Bool, decide (mbI (fun j => [b0, b1, b2, b3, b4, b5, b6, b7].getD j false) 8 = nI 255) = allB (fun j => [b0, b1, b2, b3, b4, b5, b6, b7].getD j false) 8 := by decide +kernel
theorem allB_ext {p q : Nat → Bool} : ∀ n, (∀ j, j < n → p j = q j) → allB p n = allB q n
  | 0, _ => rfl
  | n + 1, h => by
    unfold allB
    rw [h n (by omega), allB_ext n (fun j hj => h j (by omega))]
theorem mb_all (p : Nat → Bool) : mbI p 8 = nI 255 ↔ allB p 8 = true := by
  have h := mb_alls (p 0) (p 1) (p 2) (p 3) (p 4) (p 5) (p 6) (p 7)
  rw [← mbI_ext 8 (mb_list p), ← allB_ext 8 (mb_list p)] at h
  rw [← h]
  simp
def rgT (c : Nat → Nat) (d : Nat) : Nat := HC ((pl (c d) + 1) % 8)
def rgU (c : Nat → Nat) (d : Nat) : Nat := HF ((pl (c d) + 1) % 8)
section F8
variable {x0 x1 x2 x3 : AE} {fc ff fs ft fu fw : Nat → Int32} {fy fd : Int32} {po : List AE}
variable {R : List AE} {c f : Nat → Nat}
theorem s_planRing0 {p : Nat → Bool} (hs : Sd fs c) (h : (allB p 8 && ringB c 8) = false) : Sem mX2_planRing 2 0 0 [.ref 4, .int (mbI p 8)] (cF x0 x1 x2 x3 fc ff fs ft fu fw fy fd po, R) none (cF x0 x1 x2 x3 fc ff fs ft fu fw (nI 5) fd po, R) := by
  refine sem_of (by decide) (Nat.le_of_ble_eq_true rfl) rfl ?_
  by_cases ha : allB p 8 = true
  · rw [ha, Bool.true_and] at h
    refine r_iload_n dX2_planRing_0 rfl ?_
    refine r_sipush (v := (nI 255)) dX2_planRing_1 (by decide) ?_
    refine r_icmp_ne 14 dX2_planRing_4 (by decide) (fun h4 => ?_) (fun h4 => ?_)
    · exact absurd ((mb_all p).mpr ha) h4
    · refine r_pc 7 rfl ?_
      refine r_aload_n dX2_planRing_7 rfl ?_
      refine r_cV dX2_planRing_8 (s_isRing hs) lX2_72 rfl rfl rfl (by decide) ⟨Nat.le_refl _, Nat.le_refl _⟩ (Nat.le_of_ble_eq_true rfl) ?_
      rw [h]
      refine r_if_ne 20 dX2_planRing_11 (by decide) (fun h11 => ?_) (fun h11 => ?_)
      · exact absurd rfl h11
      · refine r_pc 14 rfl ?_
        refine r_aload_n dX2_planRing_14 rfl ?_
        refine r_iconst (v := (nI 5)) dX2_planRing_15 (by decide) ?_
        refine r_put (w2 := (cF _ _ _ _ _ _ _ _ _ _ _ _ _, _)) dX2_planRing_16 fX2_30 rfl rfl (Nat.le_of_ble_eq_true rfl) (fun _ => rfl) (fun _ => rfl) rfl ?_
        exact r_vret dX2_planRing_19 rfl rfl rfl
  · refine r_iload_n dX2_planRing_0 rfl ?_
    refine r_sipush (v := (nI 255)) dX2_planRing_1 (by decide) ?_
    refine r_icmp_ne 14 dX2_planRing_4 (by decide) (fun h4 => ?_) (fun h4 => ?_)
    · refine r_pc 14 rfl ?_
      refine r_aload_n dX2_planRing_14 rfl ?_
      refine r_iconst (v := (nI 5)) dX2_planRing_15 (by decide) ?_
      refine r_put (w2 := (cF _ _ _ _ _ _ _ _ _ _ _ _ _, _)) dX2_planRing_16 fX2_30 rfl rfl (Nat.le_of_ble_eq_true rfl) (fun _ => rfl) (fun _ => rfl) rfl ?_
      exact r_vret dX2_planRing_19 rfl rfl rfl
    · exact absurd ((mb_all p).mp h4) ha
theorem s_planRing1 {p : Nat → Bool} (hs : Sd fs c) (hi_ : Inj c) (h : (allB p 8 && ringB c 8) = true) : Sem mX2_planRing 2 0 0 [.ref 4, .int (mbI p 8)] (cF x0 x1 x2 x3 fc ff fs ft fu fw fy fd po, R) none (cF x0 x1 x2 x3 fc ff fs (fun j => nI (rgT c j)) (fun j => nI (rgU c j)) fw fy (nI 8) po, R) := by
  refine sem_of (by decide) (Nat.le_of_ble_eq_true rfl) rfl ?_
  rw [Bool.and_eq_true] at h
  obtain ⟨ha, hr⟩ := h
  generalize hw0 : (cF x0 x1 x2 x3 fc ff fs ft fu fw fy fd po, R) = w0
  have L : ∀ (m i : Nat) (ft fu : Nat → Int32) (y3 y4 : Option Value), i + m = 8 → (∀ k, k < i → ∀ d, d < 8 → c d = HC k → ft d = nI (HC ((k + 1) % 8)) ∧ fu d = nI (HF ((k + 1) % 8))) → Rn mX2_planRing 2 0 0 w0 none (cF x0 x1 x2 x3 fc ff fs (fun j => nI (rgT c j)) (fun j => nI (rgU c j)) fw fy (nI 8) po, R) 0 0 22 [some (.ref 4), some (.int (mbI p 8)), some (.int (nI i)), y3, y4] [] (cF x0 x1 x2 x3 fc ff fs ft fu fw fy fd po, R) := by
    intro m
    induction m with
    | zero =>
      intro i ft fu y3 y4 hi h1
      have : i = 8 := by omega
      subst this
      refine r_weq _ (weq_F (ft' := fun j => nI (rgT c j)) (fu' := fun j => nI (rgU c j)) (fun _ _ => rfl) (fun _ _ => rfl) (fun _ _ => rfl) (fun j hj => ?_) (fun j hj => ?_) (fun _ _ => rfl)) ?_
      · obtain ⟨k, hk, e⟩ := ring_all hr hj
        rw [(h1 k hk j hj e).1]
        simp only [rgT, e, pl_HC k hk]
      · obtain ⟨k, hk, e⟩ := ring_all hr hj
        rw [(h1 k hk j hj e).2]
        simp only [rgU, e, pl_HC k hk]
      · refine r_iload_n dX2_planRing_22 rfl ?_
        refine r_bipush (v := (nI 8)) dX2_planRing_23 (by decide) ?_
        refine r_icmp_geN 82 dX2_planRing_25 (by decide) (by omega) (by omega) (fun h25 => ?_) (fun h25 => ?_)
        · refine r_pc 82 rfl ?_
          refine r_aload_n dX2_planRing_82 rfl ?_
          refine r_bipush (v := (nI 8)) dX2_planRing_83 (by decide) ?_
          refine r_put (w2 := (cF _ _ _ _ _ _ _ _ _ _ _ _ _, _)) dX2_planRing_85 fX2_34 rfl rfl (Nat.le_of_ble_eq_true rfl) (fun _ => rfl) (fun _ => rfl) rfl ?_
          exact r_vret dX2_planRing_88 rfl rfl rfl
        · exact absurd h25 (by omega)
    | succ m ih =>
      intro i ft fu y3 y4 hi h1
      have hi8 : i < 8 := by omega
      obtain ⟨d, hd⟩ := ringB_at hr i hi8
      have hd8 := who_lt hd
      have hn8 : (i + 1) % 8 < 8 := Nat.mod_lt _ (by decide)
      have e3 := hs (HC i) (HC_lt i hi8)
      rw [hd] at e3
      have ih := ih (i + 1) (upd ft d (nI (HC ((i + 1) % 8)))) (upd fu d (nI (HF ((i + 1) % 8)))) (some (.int (nI d))) (some (.int (nI ((i + 1) % 8)))) (by omega) (fun k hk e he q => by
        by_cases ek : k = i
        · subst ek
          have : e = d := hi_ e he d hd8 (by rw [q, who_some hd])
          subst this
          exact ⟨pk_us, pk_us⟩
        · have hne : ¬ e = d := fun z => by
            subst z
            exact ek (HC_inj k (by omega) i hi8 (by rw [← q, who_some hd]))
          rw [pk_un hne, pk_un hne]
          exact h1 k (by omega) e he q)
      refine r_iload_n dX2_planRing_22 rfl ?_
      refine r_bipush (v := (nI 8)) dX2_planRing_23 (by decide) ?_
      refine r_icmp_geN 82 dX2_planRing_25 (by decide) (by omega) (by omega) (fun h25 => ?_) (fun h25 => ?_)
      · exact absurd h25 (by omega)
      · refine r_pc 28 rfl ?_
        refine r_aload_n dX2_planRing_28 rfl ?_
        refine r_get dX2_planRing_29 fX2_18 rfl rfl ?_
        refine r_gets (a := 0) dX2_planRing_32 rfl sX2_75 ?_
        refine r_iload_n dX2_planRing_35 rfl ?_
        refine r_cald (v := nI (HC i)) 0 rfl (Or.inl ⟨dX2_planRing_36, rfl⟩) rfl hi8 (by decide) (HC_I i hi8) ?_
        refine r_pc 37 rfl ?_
        refine r_iald dX2_planRing_37 rfl rfl (HC_lt i hi8) (by decide) ?_
        refine r_topi (nI d) e3 ?_
        refine r_istore_n (ls' := [_, _, _, _, _]) dX2_planRing_38 (by decide) rfl ?_
        refine r_iload_n dX2_planRing_39 rfl ?_
        refine r_iconst (v := (nI 1)) dX2_planRing_40 (by decide) ?_
        refine r_iaddN dX2_planRing_41 ?_
        refine r_pc 42 rfl ?_
        refine r_bipush (v := (nI 8)) dX2_planRing_42 (by decide) ?_
        refine r_iremN dX2_planRing_44 (by omega) (by decide) (by decide) ?_
        refine r_istore (ls' := [_, _, _, _, _]) dX2_planRing_45 (by decide) rfl ?_
        refine r_iload_n dX2_planRing_47 rfl ?_
        refine r_iconst (v := (-1)) dX2_planRing_48 (by decide) ?_
        refine r_pc 49 rfl ?_
        refine r_icmp_eq 76 dX2_planRing_49 (by decide) (fun h49 => ?_) (fun h49 => ?_)
        · exact absurd h49 (nI_m1 (by omega))
        · refine r_pc 52 rfl ?_
          refine r_aload_n dX2_planRing_52 rfl ?_
          refine r_get dX2_planRing_53 fX2_21 rfl rfl ?_
          refine r_iload_n dX2_planRing_56 rfl ?_
          refine r_gets (a := 0) dX2_planRing_57 rfl sX2_75 ?_
          refine r_iload dX2_planRing_60 rfl ?_
          refine r_pc 62 rfl ?_
          refine r_cald (v := nI (HC ((i + 1) % 8))) 0 rfl (Or.inl ⟨dX2_planRing_62, rfl⟩) rfl hn8 (by decide) (HC_I _ hn8) ?_
          refine r_iast (w2 := (cF _ _ _ _ _ _ _ _ _ _ _ _ _, _)) dX2_planRing_63 rfl rfl hd8 (by decide) rfl ?_
          refine r_aload_n dX2_planRing_64 rfl ?_
          refine r_get dX2_planRing_65 fX2_24 rfl rfl ?_
          refine r_iload_n dX2_planRing_68 rfl ?_
          refine r_pc 69 rfl ?_
          refine r_gets (a := 1) dX2_planRing_69 rfl sX2_78 ?_
          refine r_iload dX2_planRing_72 rfl ?_
          refine r_cald (v := nI (HF ((i + 1) % 8))) 1 rfl (Or.inl ⟨dX2_planRing_74, rfl⟩) rfl hn8 (by decide) (HF_I _ hn8) ?_
          refine r_iast (w2 := (cF _ _ _ _ _ _ _ _ _ _ _ _ _, _)) dX2_planRing_75 rfl rfl hd8 (by decide) rfl ?_
          refine r_inc1 (ls' := [_, _, _, _, _]) dX2_planRing_76 (by decide) rfl rfl ?_
          refine r_pc 79 rfl ?_
          refine r_goto 22 dX2_planRing_79 (by decide) ?_
          refine r_pc 22 rfl ?_
          exact ih
  subst hw0
  refine r_iload_n dX2_planRing_0 rfl ?_
  refine r_sipush (v := (nI 255)) dX2_planRing_1 (by decide) ?_
  refine r_icmp_ne 14 dX2_planRing_4 (by decide) (fun h4 => ?_) (fun h4 => ?_)
  · exact absurd ((mb_all p).mpr ha) h4
  · refine r_pc 7 rfl ?_
    refine r_aload_n dX2_planRing_7 rfl ?_
    refine r_cV dX2_planRing_8 (s_isRing hs) lX2_72 rfl rfl rfl (by decide) ⟨Nat.le_refl _, Nat.le_refl _⟩ (Nat.le_of_ble_eq_true rfl) ?_
    rw [hr]
    refine r_if_ne 20 dX2_planRing_11 (by decide) (fun h11 => ?_) (fun h11 => ?_)
    · refine r_pc 20 rfl ?_
      refine r_iconst (v := (nI 0)) dX2_planRing_20 (by decide) ?_
      refine r_istore_n (ls' := [_, _, _, _, _]) dX2_planRing_21 (by decide) rfl ?_
      refine r_pc 22 rfl ?_
      exact L 8 0 _ _ _ _ (by omega) (fun k h => absurd h (by omega))
    · exact absurd h11 (by decide)
end F8
