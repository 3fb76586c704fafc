/-! ===== a call planned: what it comes to ===== -/
def noB (p : Nat → Bool) : Bool := allB (fun j => !p j) 8
theorem allB_at {p : Nat → Bool} : ∀ {n : Nat}, allB p n = true ↔ ∀ j, j < n → p j = true
  | 0 => ⟨fun _ j h => absurd h (by omega), fun _ => rfl⟩
  | n + 1 => by
    show (allB p n && p n) = true ↔ _
    rw [Bool.and_eq_true, allB_at (n := n)]
    constructor
    · intro h j hj
      by_cases e : j = n
      · subst e; exact h.2
      · exact h.1 j (by omega)
    · exact fun h => ⟨fun j hj => h j (by omega), h n (by omega)⟩
theorem noB_mb (p : Nat → Bool) : mbI p 8 = 0 ↔ noB p = true := by
  rw [mb_zero, noB, allB_at]
  exact ⟨fun h j hj => by rw [h j hj]; rfl, fun h j hj => by have := h j hj; simpa using this⟩
def rok (c f : Nat → Nat) (w : Nat) : Bool := allB (mnt c f w) 8 && ringB c 8
def PY (c f : Nat → Nat) (w g : Nat) : Nat := if noB (mnt c f w) = true then 4 else if g = 11 then (if rok c f w = true then 0 else 5) else if g ≤ 4 then 0 else if (pst c f g (mnt c f w) 8).2.2.2 = 0 then 4 else 0
def PT (c f : Nat → Nat) (w g : Nat) : Nat → Option Nat := if noB (mnt c f w) = true then (fun j => some (c j)) else if g = 11 then (if rok c f w = true then (fun j => some (rgT c j)) else (fun j => some (c j))) else if g ≤ 4 then eT c f (mnt c f w) g else (pst c f g (mnt c f w) 8).2.1
def PU (c f : Nat → Nat) (w g : Nat) : Nat → Nat := if noB (mnt c f w) = true then f else if g = 11 then (if rok c f w = true then rgU c else f) else if g ≤ 4 then eU f (mnt c f w) g else (pst c f g (mnt c f w) 8).2.2.1
def PN (c f : Nat → Nat) (w g : Nat) : Nat := if noB (mnt c f w) = true then 0 else if g = 11 then (if rok c f w = true then 8 else 0) else if g ≤ 4 then cnt (mnt c f w) 8 else (pst c f g (mnt c f w) 8).2.2.2
/-- falls are looked for -/
def fx (y g : Nat) : Bool := decide (y = 0) && (decide (g = 0) || (decide (g = 1) || decide (g = 10)))
def PW (c f : Nat → Nat) (w g : Nat) (j : Nat) : Nat := if fx (PY c f w g) g = true then wy c (PT c f w g) j else 0
def okx (c : Nat → Nat) (t : Nat → Option Nat) (y g : Nat) : Bool := decide (y = 0) && !(fx y g && smf c t 8)
def POK (c f : Nat → Nat) (w g : Nat) : Bool := okx c (PT c f w g) (PY c f w g) g
def Val (c f : Nat → Nat) : Prop := ∀ j, j < 8 → c j < 16 ∧ f j < 4
theorem up_Tl {t : Nat → Option Nat} {k : Nat} {v : Option Nat} (h : Tl t) (hv : ∀ x, v = some x → x < 16) : Tl (up t k v) := by
  intro j hj x hx
  unfold up at hx
  split at hx
  · exact hv x hx
  · exact h j hj x hx
theorem pst_Tl {c f : Nat → Nat} {g : Nat} {p : Nat → Bool} (hv : Val c f) : ∀ i, i ≤ 8 → Tl (pst c f g p i).2.1
  | 0, _ => fun j hj x hx => by cases hx; exact (hv j hj).1
  | i + 1, hi => by
    have ih := pst_Tl (g := g) (p := p) hv i (by omega)
    unfold pst
    split
    · exact ih
    · split
      · exact ih
      · rename_i e hm
        have he := mate_lt hm
        show Tl (pT c f g i e _)
        unfold pT
        split
        · refine up_Tl ih (fun x hx => ?_)
          have hl : fl c f i e < 8 := by unfold fl; split <;> omega
          exact nb_lt (hv _ hl).1 (hv _ hl).2 hx
        · exact up_Tl (up_Tl ih (fun x hx => by cases hx; exact (hv e he).1)) (fun x hx => by cases hx; exact (hv i (by omega)).1)
theorem PT_Tl {c f : Nat → Nat} {w g : Nat} (hv : Val c f) : Tl (PT c f w g) := by
  unfold PT
  split
  · exact fun j hj x hx => by cases hx; exact (hv j hj).1
  · split
    · split
      · exact fun j hj x hx => by cases hx; exact HC_lt _ (Nat.mod_lt _ (by decide))
      · exact fun j hj x hx => by cases hx; exact (hv j hj).1
    · split
      · intro j hj x hx
        unfold eT at hx
        split at hx
        · cases hx; exact (hv j hj).1
        · split at hx
          · exact nb_lt (hv j hj).1 (hv j hj).2 hx
          · exact nb_lt (hv j hj).1 (Nat.mod_lt _ (by decide)) hx
          · cases hx; exact (hv j hj).1
      · exact pst_Tl hv 8 (Nat.le_refl _)
theorem Sq_val {fc ff : Nat → Int32} {c f : Nat → Nat} (h : Sq fc ff c f) : Val c f := fun j hj => ⟨(h j hj).2.1, (h j hj).2.2.2⟩
section F9
variable {x0 x1 x2 x3 : AE} {fc ff fs ft fu fw : Nat → Int32} {fy fd : Int32} {po : List AE}
variable {R : List AE} {c f : Nat → Nat}
theorem s_plan {w g : Nat} (hw : w < 9) (hg : g < 12) (hS : Sq fc ff c f) (hs : Sd fs c) (hi : Inj c) : Sem mX2_plan 5 0 0 [.ref 4, .int (nI (100 * w + g))] (cF x0 x1 x2 x3 fc ff fs ft fu fw fy fd po, R) (some (.int (bI (POK c f w g)))) (cF x0 x1 x2 x3 fc ff fs (fun j => stI (PT c f w g j)) (fun j => nI (PU c f w g j)) (fun j => nI (PW c f w g j)) (nI (PY c f w g)) (nI (PN c f w g)) po, R) := by
  refine sem_of (by decide) (Nat.le_of_ble_eq_true rfl) rfl ?_
  have hval := Sq_val hS
  have hr : (100 * w + g) % 100 = g := by omega
  have hq : (100 * w + g) / 100 = w := by omega
  generalize hw0 : (cF x0 x1 x2 x3 fc ff fs ft fu fw fy fd po, R) = w0
  have T : ∀ (t : Nat → Option Nat) (u : Nat → Nat) (n y : Nat), Tl t → y < 10 → Rn mX2_plan 5 0 0 w0 (some (.int (bI (okx c t y g)))) (cF x0 x1 x2 x3 fc ff fs (fun j => stI (t j)) (fun j => nI (u j)) (fun j => nI (if fx y g = true then wy c t j else 0)) (nI y) (nI n) po, R) 0 0 63 [some (.ref 4), some (.int (nI (100 * w + g))), some (.int (nI g)), some (.int (mbI (mnt c f w) 8)), none] [] (cF x0 x1 x2 x3 fc ff fs (fun j => stI (t j)) (fun j => nI (u j)) (fun _ => nI 0) (nI y) (nI n) po, R) := by
    intro t u n y ht hy
    by_cases hy0 : y = 0
    · by_cases hmf : g = 0 ∨ g = 1 ∨ g = 10
      · have hf : fx y g = true := by
          rcases hmf with rfl | rfl | rfl <;> simp [fx, hy0]
        have ho : okx c t y g = !smf c t 8 := by rw [okx, hf]; simp [hy0]
        simp only [hf, if_true, ho]
        subst hy0
        have G : Rn mX2_plan 5 0 0 w0 (some (.int (bI (!smf c t 8)))) (cF x0 x1 x2 x3 fc ff fs (fun j => stI (t j)) (fun j => nI (u j)) (fun j => nI (wy c t j)) (nI 0) (nI n) po, R) 0 0 85 [some (.ref 4), some (.int (nI (100 * w + g))), some (.int (nI g)), some (.int (mbI (mnt c f w) 8)), some (.int (nI 1))] [] (cF x0 x1 x2 x3 fc ff fs (fun j => stI (t j)) (fun j => nI (u j)) (fun _ => nI 0) (nI 0) (nI n) po, R) := by
          cases hsm : smf c t 8 with
          | true =>
            refine r_aload_n dX2_plan_85 rfl ?_
            refine r_get dX2_plan_86 fX2_30 rfl rfl ?_
            refine r_if_ne 108 dX2_plan_89 (by decide) (fun h89 => ?_) (fun h89 => ?_)
            · exact absurd rfl h89
            · refine r_pc 92 rfl ?_
              refine r_iload dX2_plan_92 rfl ?_
              refine r_if_eq 104 dX2_plan_94 (by decide) (fun h94 => ?_) (fun h94 => ?_)
              · exact absurd h94 (by decide)
              · refine r_pc 97 rfl ?_
                refine r_aload_n dX2_plan_97 rfl ?_
                refine r_cV dX2_plan_98 (s_someFall hS hs ht (fun _ _ => rfl)) lX2_68 rfl rfl rfl (by decide) ⟨Nat.le_refl _, Nat.le_refl _⟩ (Nat.le_of_ble_eq_true rfl) ?_
                rw [hsm]
                refine r_if_ne 108 dX2_plan_101 (by decide) (fun h101 => ?_) (fun h101 => ?_)
                · refine r_pc 108 rfl ?_
                  refine r_iconst (v := (nI 0)) dX2_plan_108 (by decide) ?_
                  exact r_zret dX2_plan_109 rfl rfl rfl rfl
                · exact absurd h101 (by decide)
          | false =>
            refine r_aload_n dX2_plan_85 rfl ?_
            refine r_get dX2_plan_86 fX2_30 rfl rfl ?_
            refine r_if_ne 108 dX2_plan_89 (by decide) (fun h89 => ?_) (fun h89 => ?_)
            · exact absurd rfl h89
            · refine r_pc 92 rfl ?_
              refine r_iload dX2_plan_92 rfl ?_
              refine r_if_eq 104 dX2_plan_94 (by decide) (fun h94 => ?_) (fun h94 => ?_)
              · exact absurd h94 (by decide)
              · refine r_pc 97 rfl ?_
                refine r_aload_n dX2_plan_97 rfl ?_
                refine r_cV dX2_plan_98 (s_someFall hS hs ht (fun _ _ => rfl)) lX2_68 rfl rfl rfl (by decide) ⟨Nat.le_refl _, Nat.le_refl _⟩ (Nat.le_of_ble_eq_true rfl) ?_
                rw [hsm]
                refine r_if_ne 108 dX2_plan_101 (by decide) (fun h101 => ?_) (fun h101 => ?_)
                · exact absurd rfl h101
                · refine r_pc 104 rfl ?_
                  refine r_iconst (v := (nI 1)) dX2_plan_104 (by decide) ?_
                  refine r_goto 109 dX2_plan_105 (by decide) ?_
                  exact r_zret dX2_plan_109 rfl rfl rfl rfl
        refine r_iload_n dX2_plan_63 rfl ?_
        refine r_if_eq 78 dX2_plan_64 (by decide) (fun h64 => ?_) (fun h64 => ?_)
        · refine r_pc 78 rfl ?_
          refine r_iconst (v := (nI 1)) dX2_plan_78 (by decide) ?_
          refine r_goto 83 dX2_plan_79 (by decide) ?_
          refine r_istore (ls' := [_, _, _, _, _]) dX2_plan_83 (by decide) rfl ?_
          refine r_pc 85 rfl ?_
          exact G
        · refine r_pc 67 rfl ?_
          refine r_iload_n dX2_plan_67 rfl ?_
          refine r_iconst (v := (nI 1)) dX2_plan_68 (by decide) ?_
          refine r_icmp_eqN 78 dX2_plan_69 (by decide) (by omega) (by omega) (fun h69 => ?_) (fun h69 => ?_)
          · refine r_pc 78 rfl ?_
            refine r_iconst (v := (nI 1)) dX2_plan_78 (by decide) ?_
            refine r_goto 83 dX2_plan_79 (by decide) ?_
            refine r_istore (ls' := [_, _, _, _, _]) dX2_plan_83 (by decide) rfl ?_
            refine r_pc 85 rfl ?_
            exact G
          · refine r_pc 72 rfl ?_
            refine r_iload_n dX2_plan_72 rfl ?_
            refine r_bipush (v := (nI 10)) dX2_plan_73 (by decide) ?_
            refine r_icmp_neN 82 dX2_plan_75 (by decide) (by omega) (by omega) (fun h75 => ?_) (fun h75 => ?_)
            · exact absurd hmf (fun z => by rcases z with z | z | z; (exact h64 (by rw [z]; rfl)); (exact h69 z); (exact h75 z))
            · refine r_pc 78 rfl ?_
              refine r_iconst (v := (nI 1)) dX2_plan_78 (by decide) ?_
              refine r_goto 83 dX2_plan_79 (by decide) ?_
              refine r_istore (ls' := [_, _, _, _, _]) dX2_plan_83 (by decide) rfl ?_
              refine r_pc 85 rfl ?_
              exact G
      · have hf : fx y g = false := by simp [fx]; omega
        have ho : okx c t y g = true := by rw [okx, hf]; simp [hy0]
        simp only [hf, ho, Bool.false_eq_true, if_false]
        subst hy0
        refine r_iload_n dX2_plan_63 rfl ?_
        refine r_if_eq 78 dX2_plan_64 (by decide) (fun h64 => ?_) (fun h64 => ?_)
        · exact absurd (Or.inl (nI_z (by omega) h64)) hmf
        · refine r_pc 67 rfl ?_
          refine r_iload_n dX2_plan_67 rfl ?_
          refine r_iconst (v := (nI 1)) dX2_plan_68 (by decide) ?_
          refine r_icmp_eqN 78 dX2_plan_69 (by decide) (by omega) (by omega) (fun h69 => ?_) (fun h69 => ?_)
          · exact absurd (Or.inr (Or.inl h69)) hmf
          · refine r_pc 72 rfl ?_
            refine r_iload_n dX2_plan_72 rfl ?_
            refine r_bipush (v := (nI 10)) dX2_plan_73 (by decide) ?_
            refine r_icmp_neN 82 dX2_plan_75 (by decide) (by omega) (by omega) (fun h75 => ?_) (fun h75 => ?_)
            · refine r_pc 82 rfl ?_
              refine r_iconst (v := (nI 0)) dX2_plan_82 (by decide) ?_
              refine r_istore (ls' := [_, _, _, _, _]) dX2_plan_83 (by decide) rfl ?_
              refine r_aload_n dX2_plan_85 rfl ?_
              refine r_get dX2_plan_86 fX2_30 rfl rfl ?_
              refine r_if_ne 108 dX2_plan_89 (by decide) (fun h89 => ?_) (fun h89 => ?_)
              · exact absurd rfl h89
              · refine r_pc 92 rfl ?_
                refine r_iload dX2_plan_92 rfl ?_
                refine r_if_eq 104 dX2_plan_94 (by decide) (fun h94 => ?_) (fun h94 => ?_)
                · refine r_pc 104 rfl ?_
                  refine r_iconst (v := (nI 1)) dX2_plan_104 (by decide) ?_
                  refine r_goto 109 dX2_plan_105 (by decide) ?_
                  exact r_zret dX2_plan_109 rfl rfl rfl rfl
                · first | exact absurd h94 (by decide) | exact absurd (by decide) h94
            · exact absurd (Or.inr (Or.inr h75)) hmf
    · have hf : fx y g = false := by simp [fx, hy0]
      have ho : okx c t y g = false := by simp [okx, hy0]
      simp only [hf, ho, Bool.false_eq_true, if_false]
      refine r_iload_n dX2_plan_63 rfl ?_
      refine r_if_eq 78 dX2_plan_64 (by decide) (fun h64 => ?_) (fun h64 => ?_)
      · refine r_pc 78 rfl ?_
        refine r_iconst (v := (nI 1)) dX2_plan_78 (by decide) ?_
        refine r_goto 83 dX2_plan_79 (by decide) ?_
        refine r_istore (ls' := [_, _, _, _, _]) dX2_plan_83 (by decide) rfl ?_
        refine r_aload_n dX2_plan_85 rfl ?_
        refine r_get dX2_plan_86 fX2_30 rfl rfl ?_
        refine r_pc 89 rfl ?_
        refine r_if_ne 108 dX2_plan_89 (by decide) (fun h89 => ?_) (fun h89 => ?_)
        · refine r_pc 108 rfl ?_
          refine r_iconst (v := (nI 0)) dX2_plan_108 (by decide) ?_
          exact r_zret dX2_plan_109 rfl rfl rfl rfl
        · exact absurd (nI_z (by omega) h89) hy0
      · refine r_pc 67 rfl ?_
        refine r_iload_n dX2_plan_67 rfl ?_
        refine r_iconst (v := (nI 1)) dX2_plan_68 (by decide) ?_
        refine r_icmp_eqN 78 dX2_plan_69 (by decide) (by omega) (by omega) (fun h69 => ?_) (fun h69 => ?_)
        · refine r_pc 78 rfl ?_
          refine r_iconst (v := (nI 1)) dX2_plan_78 (by decide) ?_
          refine r_goto 83 dX2_plan_79 (by decide) ?_
          refine r_istore (ls' := [_, _, _, _, _]) dX2_plan_83 (by decide) rfl ?_
          refine r_aload_n dX2_plan_85 rfl ?_
          refine r_get dX2_plan_86 fX2_30 rfl rfl ?_
          refine r_pc 89 rfl ?_
          refine r_if_ne 108 dX2_plan_89 (by decide) (fun h89 => ?_) (fun h89 => ?_)
          · refine r_pc 108 rfl ?_
            refine r_iconst (v := (nI 0)) dX2_plan_108 (by decide) ?_
            exact r_zret dX2_plan_109 rfl rfl rfl rfl
          · exact absurd (nI_z (by omega) h89) hy0
        · refine r_pc 72 rfl ?_
          refine r_iload_n dX2_plan_72 rfl ?_
          refine r_bipush (v := (nI 10)) dX2_plan_73 (by decide) ?_
          refine r_icmp_neN 82 dX2_plan_75 (by decide) (by omega) (by omega) (fun h75 => ?_) (fun h75 => ?_)
          · refine r_pc 82 rfl ?_
            refine r_iconst (v := (nI 0)) dX2_plan_82 (by decide) ?_
            refine r_istore (ls' := [_, _, _, _, _]) dX2_plan_83 (by decide) rfl ?_
            refine r_aload_n dX2_plan_85 rfl ?_
            refine r_get dX2_plan_86 fX2_30 rfl rfl ?_
            refine r_if_ne 108 dX2_plan_89 (by decide) (fun h89 => ?_) (fun h89 => ?_)
            · refine r_pc 108 rfl ?_
              refine r_iconst (v := (nI 0)) dX2_plan_108 (by decide) ?_
              exact r_zret dX2_plan_109 rfl rfl rfl rfl
            · exact absurd (nI_z (by omega) h89) hy0
          · refine r_pc 78 rfl ?_
            refine r_iconst (v := (nI 1)) dX2_plan_78 (by decide) ?_
            refine r_goto 83 dX2_plan_79 (by decide) ?_
            refine r_istore (ls' := [_, _, _, _, _]) dX2_plan_83 (by decide) rfl ?_
            refine r_aload_n dX2_plan_85 rfl ?_
            refine r_get dX2_plan_86 fX2_30 rfl rfl ?_
            refine r_pc 89 rfl ?_
            refine r_if_ne 108 dX2_plan_89 (by decide) (fun h89 => ?_) (fun h89 => ?_)
            · refine r_pc 108 rfl ?_
              refine r_iconst (v := (nI 0)) dX2_plan_108 (by decide) ?_
              exact r_zret dX2_plan_109 rfl rfl rfl rfl
            · exact absurd (nI_z (by omega) h89) hy0
  subst hw0
  unfold POK PW
  have T := fun (t : Nat → Option Nat) (u : Nat → Nat) (n y : Nat) (e1 : PT c f w g = t) (e2 : PU c f w g = u) (e3 : PN c f w g = n) (e4 : PY c f w g = y) (ht : Tl t) (hy : y < 10) => by
    have := T t u n y ht hy
    rw [← e1, ← e2, ← e3, ← e4] at this
    exact this
  by_cases hno : noB (mnt c f w) = true
  · have e1 : PT c f w g = (fun j => some (c j)) := by simp only [PT, if_pos hno]
    have e2 : PU c f w g = f := by simp only [PU, if_pos hno]
    have e3 : PN c f w g = 0 := by simp only [PN, if_pos hno]
    have e4 : PY c f w g = 4 := by simp only [PY, if_pos hno]
    have e5 : okx c (PT c f w g) (PY c f w g) g = false := by simp [okx, e4]
    have e6 : fx (PY c f w g) g = false := by simp [fx, e4]
    rw [e5]
    simp only [e6, e1, e2, e3, e4, Bool.false_eq_true, if_false]
    refine r_iload_n dX2_plan_0 rfl ?_
    refine r_bipush (v := (nI 100)) dX2_plan_1 (by decide) ?_
    refine r_iremN dX2_plan_3 (by omega) (by decide) (by decide) ?_
    rw [hr]
    refine r_istore_n (ls' := [_, _, _, _, _]) dX2_plan_4 (by decide) rfl ?_
    refine r_aload_n dX2_plan_5 rfl ?_
    refine r_pc 6 rfl ?_
    refine r_iload_n dX2_plan_6 rfl ?_
    refine r_bipush (v := (nI 100)) dX2_plan_7 (by decide) ?_
    refine r_idivN dX2_plan_9 (by omega) (by decide) (by decide) ?_
    rw [hq]
    refine r_cV dX2_plan_10 (s_meantBy hw hS hs) lX2_50 rfl rfl rfl (by decide) ⟨Nat.le_refl _, Nat.le_refl _⟩ (Nat.le_of_ble_eq_true rfl) ?_
    refine r_istore_n (ls' := [_, _, _, _, _]) dX2_plan_13 (by decide) rfl ?_
    refine r_pc 14 rfl ?_
    refine r_aload_n dX2_plan_14 rfl ?_
    refine r_cVv dX2_plan_15 s_startPlan lX2_54 rfl rfl rfl (by decide) ⟨Nat.le_refl _, Nat.le_refl _⟩ (Nat.le_of_ble_eq_true rfl) ?_
    refine r_iload_n dX2_plan_18 rfl ?_
    refine r_if_ne 29 dX2_plan_19 (by decide) (fun h19 => ?_) (fun h19 => ?_)
    · exact absurd ((noB_mb _).mpr hno) h19
    · refine r_pc 22 rfl ?_
      refine r_weq _ (weq_F (ft' := fun j => stI (some (c j))) (fu' := fun j => nI (f j)) (fun _ _ => rfl) (fun _ _ => rfl) (fun _ _ => rfl) (fun j hj => (hS j hj).1) (fun j hj => (hS j hj).2.2.1) (fun _ _ => rfl)) ?_
      refine r_aload_n dX2_plan_22 rfl ?_
      refine r_iconst (v := (nI 4)) dX2_plan_23 (by decide) ?_
      refine r_put (w2 := (cF _ _ _ _ _ _ _ _ _ _ _ _ _, _)) dX2_plan_24 fX2_30 rfl rfl (Nat.le_of_ble_eq_true rfl) (fun _ => rfl) (fun _ => rfl) rfl ?_
      refine r_iconst (v := (nI 0)) dX2_plan_27 (by decide) ?_
      exact r_zret dX2_plan_28 rfl rfl rfl rfl
  · have hz : ¬ mbI (mnt c f w) 8 = 0 := fun q => hno ((noB_mb _).mp q)
    by_cases h11 : g = 11
    · cases hk : rok c f w with
      | true =>
        have e1 : PT c f w g = (fun j => some (rgT c j)) := by simp only [PT, if_neg hno, if_pos h11, hk, if_true]
        have e2 : PU c f w g = rgU c := by simp only [PU, if_neg hno, if_pos h11, hk, if_true]
        have e3 : PN c f w g = 8 := by simp only [PN, if_neg hno, if_pos h11, hk, if_true]
        have e4 : PY c f w g = 0 := by simp only [PY, if_neg hno, if_pos h11, hk, if_true]
        have T := T _ _ _ _ e1 e2 e3 e4 (by rw [← e1]; exact PT_Tl hval) (by decide)
        refine r_iload_n dX2_plan_0 rfl ?_
        refine r_bipush (v := (nI 100)) dX2_plan_1 (by decide) ?_
        refine r_iremN dX2_plan_3 (by omega) (by decide) (by decide) ?_
        rw [hr]
        refine r_istore_n (ls' := [_, _, _, _, _]) dX2_plan_4 (by decide) rfl ?_
        refine r_aload_n dX2_plan_5 rfl ?_
        refine r_pc 6 rfl ?_
        refine r_iload_n dX2_plan_6 rfl ?_
        refine r_bipush (v := (nI 100)) dX2_plan_7 (by decide) ?_
        refine r_idivN dX2_plan_9 (by omega) (by decide) (by decide) ?_
        rw [hq]
        refine r_cV dX2_plan_10 (s_meantBy hw hS hs) lX2_50 rfl rfl rfl (by decide) ⟨Nat.le_refl _, Nat.le_refl _⟩ (Nat.le_of_ble_eq_true rfl) ?_
        refine r_istore_n (ls' := [_, _, _, _, _]) dX2_plan_13 (by decide) rfl ?_
        refine r_pc 14 rfl ?_
        refine r_aload_n dX2_plan_14 rfl ?_
        refine r_cVv dX2_plan_15 s_startPlan lX2_54 rfl rfl rfl (by decide) ⟨Nat.le_refl _, Nat.le_refl _⟩ (Nat.le_of_ble_eq_true rfl) ?_
        refine r_iload_n dX2_plan_18 rfl ?_
        refine r_if_ne 29 dX2_plan_19 (by decide) (fun h19 => ?_) (fun h19 => ?_)
        · refine r_pc 29 rfl ?_
          refine r_iload_n dX2_plan_29 rfl ?_
          refine r_bipush (v := (nI 11)) dX2_plan_30 (by decide) ?_
          refine r_icmp_neN 43 dX2_plan_32 (by decide) (by omega) (by omega) (fun h32 => ?_) (fun h32 => ?_)
          · exact absurd h11 h32
          · refine r_pc 35 rfl ?_
            refine r_aload_n dX2_plan_35 rfl ?_
            refine r_iload_n dX2_plan_36 rfl ?_
            refine r_cVv dX2_plan_37 (s_planRing1 hs hi hk) lX2_57 rfl rfl rfl (by decide) ⟨Nat.le_refl _, Nat.le_refl _⟩ (Nat.le_of_ble_eq_true rfl) ?_
            refine r_goto 63 dX2_plan_40 (by decide) ?_
            refine r_pc 63 rfl ?_
            rw [e1, e2, e3, e4] at T ⊢
            exact T
        · exact absurd h19 hz
      | false =>
        have e1 : PT c f w g = (fun j => some (c j)) := by simp only [PT, if_neg hno, if_pos h11, hk, Bool.false_eq_true, if_false]
        have e2 : PU c f w g = f := by simp only [PU, if_neg hno, if_pos h11, hk, Bool.false_eq_true, if_false]
        have e3 : PN c f w g = 0 := by simp only [PN, if_neg hno, if_pos h11, hk, Bool.false_eq_true, if_false]
        have e4 : PY c f w g = 5 := by simp only [PY, if_neg hno, if_pos h11, hk, Bool.false_eq_true, if_false]
        have T := T _ _ _ _ e1 e2 e3 e4 (by rw [← e1]; exact PT_Tl hval) (by decide)
        refine r_iload_n dX2_plan_0 rfl ?_
        refine r_bipush (v := (nI 100)) dX2_plan_1 (by decide) ?_
        refine r_iremN dX2_plan_3 (by omega) (by decide) (by decide) ?_
        rw [hr]
        refine r_istore_n (ls' := [_, _, _, _, _]) dX2_plan_4 (by decide) rfl ?_
        refine r_aload_n dX2_plan_5 rfl ?_
        refine r_pc 6 rfl ?_
        refine r_iload_n dX2_plan_6 rfl ?_
        refine r_bipush (v := (nI 100)) dX2_plan_7 (by decide) ?_
        refine r_idivN dX2_plan_9 (by omega) (by decide) (by decide) ?_
        rw [hq]
        refine r_cV dX2_plan_10 (s_meantBy hw hS hs) lX2_50 rfl rfl rfl (by decide) ⟨Nat.le_refl _, Nat.le_refl _⟩ (Nat.le_of_ble_eq_true rfl) ?_
        refine r_istore_n (ls' := [_, _, _, _, _]) dX2_plan_13 (by decide) rfl ?_
        refine r_pc 14 rfl ?_
        refine r_aload_n dX2_plan_14 rfl ?_
        refine r_cVv dX2_plan_15 s_startPlan lX2_54 rfl rfl rfl (by decide) ⟨Nat.le_refl _, Nat.le_refl _⟩ (Nat.le_of_ble_eq_true rfl) ?_
        refine r_iload_n dX2_plan_18 rfl ?_
        refine r_if_ne 29 dX2_plan_19 (by decide) (fun h19 => ?_) (fun h19 => ?_)
        · refine r_pc 29 rfl ?_
          refine r_iload_n dX2_plan_29 rfl ?_
          refine r_bipush (v := (nI 11)) dX2_plan_30 (by decide) ?_
          refine r_icmp_neN 43 dX2_plan_32 (by decide) (by omega) (by omega) (fun h32 => ?_) (fun h32 => ?_)
          · exact absurd h11 h32
          · refine r_pc 35 rfl ?_
            refine r_aload_n dX2_plan_35 rfl ?_
            refine r_iload_n dX2_plan_36 rfl ?_
            refine r_cVv dX2_plan_37 (s_planRing0 hs hk) lX2_57 rfl rfl rfl (by decide) ⟨Nat.le_refl _, Nat.le_refl _⟩ (Nat.le_of_ble_eq_true rfl) ?_
            refine r_goto 63 dX2_plan_40 (by decide) ?_
            refine r_pc 63 rfl ?_
            rw [e1, e2, e3, e4] at T ⊢
            refine r_weq _ (weq_F (ft' := fun j => stI (some (c j))) (fu' := fun j => nI (f j)) (fun _ _ => rfl) (fun _ _ => rfl) (fun _ _ => rfl) (fun j hj => (hS j hj).1) (fun j hj => (hS j hj).2.2.1) (fun _ _ => rfl)) ?_
            exact T
        · exact absurd h19 hz
    · by_cases h4 : g ≤ 4
      · have e1 : PT c f w g = eT c f (mnt c f w) g := by simp only [PT, if_neg hno, if_neg h11, if_pos h4]
        have e2 : PU c f w g = eU f (mnt c f w) g := by simp only [PU, if_neg hno, if_neg h11, if_pos h4]
        have e3 : PN c f w g = cnt (mnt c f w) 8 := by simp only [PN, if_neg hno, if_neg h11, if_pos h4]
        have e4 : PY c f w g = 0 := by simp only [PY, if_neg hno, if_neg h11, if_pos h4]
        have T := T _ _ _ _ e1 e2 e3 e4 (by rw [← e1]; exact PT_Tl hval) (by decide)
        refine r_iload_n dX2_plan_0 rfl ?_
        refine r_bipush (v := (nI 100)) dX2_plan_1 (by decide) ?_
        refine r_iremN dX2_plan_3 (by omega) (by decide) (by decide) ?_
        rw [hr]
        refine r_istore_n (ls' := [_, _, _, _, _]) dX2_plan_4 (by decide) rfl ?_
        refine r_aload_n dX2_plan_5 rfl ?_
        refine r_pc 6 rfl ?_
        refine r_iload_n dX2_plan_6 rfl ?_
        refine r_bipush (v := (nI 100)) dX2_plan_7 (by decide) ?_
        refine r_idivN dX2_plan_9 (by omega) (by decide) (by decide) ?_
        rw [hq]
        refine r_cV dX2_plan_10 (s_meantBy hw hS hs) lX2_50 rfl rfl rfl (by decide) ⟨Nat.le_refl _, Nat.le_refl _⟩ (Nat.le_of_ble_eq_true rfl) ?_
        refine r_istore_n (ls' := [_, _, _, _, _]) dX2_plan_13 (by decide) rfl ?_
        refine r_pc 14 rfl ?_
        refine r_aload_n dX2_plan_14 rfl ?_
        refine r_cVv dX2_plan_15 s_startPlan lX2_54 rfl rfl rfl (by decide) ⟨Nat.le_refl _, Nat.le_refl _⟩ (Nat.le_of_ble_eq_true rfl) ?_
        refine r_iload_n dX2_plan_18 rfl ?_
        refine r_if_ne 29 dX2_plan_19 (by decide) (fun h19 => ?_) (fun h19 => ?_)
        · refine r_pc 29 rfl ?_
          refine r_iload_n dX2_plan_29 rfl ?_
          refine r_bipush (v := (nI 11)) dX2_plan_30 (by decide) ?_
          refine r_icmp_neN 43 dX2_plan_32 (by decide) (by omega) (by omega) (fun h32 => ?_) (fun h32 => ?_)
          · refine r_pc 43 rfl ?_
            refine r_iload_n dX2_plan_43 rfl ?_
            refine r_iconst (v := (nI 4)) dX2_plan_44 (by decide) ?_
            refine r_icmp_gtN 57 dX2_plan_45 (by decide) (by omega) (by omega) (fun h45 => ?_) (fun h45 => ?_)
            · exact absurd h45 (by omega)
            · refine r_pc 48 rfl ?_
              refine r_aload_n dX2_plan_48 rfl ?_
              refine r_iload_n dX2_plan_49 rfl ?_
              refine r_iload_n dX2_plan_50 rfl ?_
              refine r_cVv dX2_plan_51 (s_planEach (by omega) hS (fun j hj => (hS j hj).1) (fun j hj => (hS j hj).2.2.1) rfl) lX2_61 rfl rfl rfl (by decide) ⟨Nat.le_refl _, Nat.le_refl _⟩ (Nat.le_of_ble_eq_true rfl) ?_
              refine r_goto 63 dX2_plan_54 (by decide) ?_
              refine r_pc 63 rfl ?_
              rw [e1, e2, e3, e4] at T ⊢
              exact T
          · exact absurd h32 h11
        · exact absurd h19 hz
      · have e1 : PT c f w g = (pst c f g (mnt c f w) 8).2.1 := by simp only [PT, if_neg hno, if_neg h11, if_neg h4]
        have e2 : PU c f w g = (pst c f g (mnt c f w) 8).2.2.1 := by simp only [PU, if_neg hno, if_neg h11, if_neg h4]
        have e3 : PN c f w g = (pst c f g (mnt c f w) 8).2.2.2 := by simp only [PN, if_neg hno, if_neg h11, if_neg h4]
        have e4 : PY c f w g = (if (pst c f g (mnt c f w) 8).2.2.2 = 0 then 4 else 0) := by simp only [PY, if_neg hno, if_neg h11, if_neg h4]
        have T := T _ _ _ _ e1 e2 e3 e4 (by rw [← e1]; exact PT_Tl hval) (by split <;> decide)
        have e7 : (if (pst c f g (mnt c f w) 8).2.2.2 = 0 then nI 4 else nI 0) = nI (if (pst c f g (mnt c f w) 8).2.2.2 = 0 then 4 else 0) := by split <;> rfl
        refine r_iload_n dX2_plan_0 rfl ?_
        refine r_bipush (v := (nI 100)) dX2_plan_1 (by decide) ?_
        refine r_iremN dX2_plan_3 (by omega) (by decide) (by decide) ?_
        rw [hr]
        refine r_istore_n (ls' := [_, _, _, _, _]) dX2_plan_4 (by decide) rfl ?_
        refine r_aload_n dX2_plan_5 rfl ?_
        refine r_pc 6 rfl ?_
        refine r_iload_n dX2_plan_6 rfl ?_
        refine r_bipush (v := (nI 100)) dX2_plan_7 (by decide) ?_
        refine r_idivN dX2_plan_9 (by omega) (by decide) (by decide) ?_
        rw [hq]
        refine r_cV dX2_plan_10 (s_meantBy hw hS hs) lX2_50 rfl rfl rfl (by decide) ⟨Nat.le_refl _, Nat.le_refl _⟩ (Nat.le_of_ble_eq_true rfl) ?_
        refine r_istore_n (ls' := [_, _, _, _, _]) dX2_plan_13 (by decide) rfl ?_
        refine r_pc 14 rfl ?_
        refine r_aload_n dX2_plan_14 rfl ?_
        refine r_cVv dX2_plan_15 s_startPlan lX2_54 rfl rfl rfl (by decide) ⟨Nat.le_refl _, Nat.le_refl _⟩ (Nat.le_of_ble_eq_true rfl) ?_
        refine r_iload_n dX2_plan_18 rfl ?_
        refine r_if_ne 29 dX2_plan_19 (by decide) (fun h19 => ?_) (fun h19 => ?_)
        · refine r_pc 29 rfl ?_
          refine r_iload_n dX2_plan_29 rfl ?_
          refine r_bipush (v := (nI 11)) dX2_plan_30 (by decide) ?_
          refine r_icmp_neN 43 dX2_plan_32 (by decide) (by omega) (by omega) (fun h32 => ?_) (fun h32 => ?_)
          · refine r_pc 43 rfl ?_
            refine r_iload_n dX2_plan_43 rfl ?_
            refine r_iconst (v := (nI 4)) dX2_plan_44 (by decide) ?_
            refine r_icmp_gtN 57 dX2_plan_45 (by decide) (by omega) (by omega) (fun h45 => ?_) (fun h45 => ?_)
            · refine r_pc 57 rfl ?_
              refine r_aload_n dX2_plan_57 rfl ?_
              refine r_iload_n dX2_plan_58 rfl ?_
              refine r_iload_n dX2_plan_59 rfl ?_
              refine r_cVv dX2_plan_60 (s_planPairs (by omega) hS hs (fun j hj => (hS j hj).1) (fun j hj => (hS j hj).2.2.1) rfl) lX2_65 rfl rfl rfl (by decide) ⟨Nat.le_refl _, Nat.le_refl _⟩ (Nat.le_of_ble_eq_true rfl) ?_
              refine r_pc 63 rfl ?_
              rw [e7]
              rw [e1, e2, e3, e4] at T ⊢
              exact T
            · exact absurd h45 h4
          · exact absurd h32 h11
        · exact absurd h19 hz
end F9
