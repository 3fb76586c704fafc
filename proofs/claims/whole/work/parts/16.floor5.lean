/-! ===== pairs ===== -/
theorem nI_z {a : Nat} (ha : a < 2 ^ 31) (h : nI a = 0) : a = 0 := (nI_eq (a := a) (b := 0) ha (by decide)).mp h
def mate (c f : Nat → Nat) (p : Nat → Bool) (g d : Nat) : Option Nat :=
  if g = 5 ∨ g = 6 ∨ g = 7 then
    match bes c f d 0 with
    | none => none
    | some e => if p e = true ∧ f e = (f d + 2) % 4 ∧ (g = 6 → ¬ e % 2 = d % 2) then some e else none
  else
    match bes c f d 1 with
    | none => match bes c f d 3 with
      | none => none
      | some e => if p e = true ∧ f e = f d then some e else none
    | some e => if p e = true ∧ f e = f d then some e else match bes c f d 3 with
      | none => none
      | some e => if p e = true ∧ f e = f d then some e else none
theorem s_isInO (w : WD) (p : Nat → Bool) (o : Option Nat) (ho : ∀ e, o = some e → e < 8) : Sem mX2_isIn 1 0 0 [.int (stI o), .int (mbI p 8)] w (some (.int (bI (match o with | none => false | some e => p e)))) w := by
  cases o with
  | none => exact s_isIn w (-1) (mbI p 8)
  | some e => exact s_isInB w p (ho e rfl)
section F5
variable {x0 x1 x2 x3 : AE} {fc ff fs ft fu fw : Nat → Int32} {fy fd : Int32} {po : List AE}
variable {R : List AE} {c f : Nat → Nat}
theorem s_partnerOf {p : Nat → Bool} {d g : Nat} (hd : d < 8) (hg : g < 11) (hS : Sq fc ff c f) (hs : Sd fs c) : Sem mX2_partnerOf 3 0 0 [.ref 4, .int (nI d), .int (mbI p 8), .int (nI g)] (cF x0 x1 x2 x3 fc ff fs ft fu fw fy fd po, R) (some (.int (stI (mate c f p g d)))) (cF x0 x1 x2 x3 fc ff fs ft fu fw fy fd po, R) := by
  refine sem_of (by decide) (Nat.le_of_ble_eq_true rfl) rfl ?_
  obtain ⟨e1, b1, e2, b2⟩ := hS d hd
  have A : g = 5 ∨ g = 6 ∨ g = 7 → Rn mX2_partnerOf 3 0 0 (cF x0 x1 x2 x3 fc ff fs ft fu fw fy fd po, R) (some (.int (stI (mate c f p g d)))) (cF x0 x1 x2 x3 fc ff fs ft fu fw fy fd po, R) 0 0 17 [some (.ref 4), some (.int (nI d)), some (.int (mbI p 8)), some (.int (nI g)), none, none] [] (cF x0 x1 x2 x3 fc ff fs ft fu fw fy fd po, R) := by
    intro hg3
    cases hb : bes c f d 0 with
    | none =>
      have hr : mate c f p g d = none := by simp [mate, hg3, hb]
      rw [hr]
      refine r_aload_n dX2_partnerOf_17 rfl ?_
      refine r_iload_n dX2_partnerOf_18 rfl ?_
      refine r_iconst (v := (nI 0)) dX2_partnerOf_19 (by decide) ?_
      refine r_cV dX2_partnerOf_20 (s_beside hd (by decide) hS hs) lX2_103 rfl rfl rfl (by decide) ⟨Nat.le_refl _, Nat.le_refl _⟩ (Nat.le_of_ble_eq_true rfl) ?_
      rw [hb]
      refine r_istore (ls' := [_, _, _, _, _, _]) dX2_partnerOf_23 (by decide) rfl ?_
      refine r_pc 25 rfl ?_
      refine r_iload dX2_partnerOf_25 rfl ?_
      refine r_iload_n dX2_partnerOf_27 rfl ?_
      refine r_cS dX2_partnerOf_28 (s_isInO _ p none (fun _ h => by cases h)) lX2_81 rfl rfl (by decide) ⟨Nat.le_refl _, Nat.le_refl _⟩ (Nat.le_of_ble_eq_true rfl) ?_
      refine r_if_eq 74 dX2_partnerOf_31 (by decide) (fun h31 => ?_) (fun h31 => ?_)
      · refine r_pc 74 rfl ?_
        refine r_iconst (v := (nI 0)) dX2_partnerOf_74 (by decide) ?_
        refine r_istore (ls' := [_, _, _, _, _, _]) dX2_partnerOf_75 (by decide) rfl ?_
        refine r_iload dX2_partnerOf_77 rfl ?_
        refine r_if_eq 87 dX2_partnerOf_79 (by decide) (fun h79 => ?_) (fun h79 => ?_)
        · refine r_pc 87 rfl ?_
          refine r_iconst (v := (-1)) dX2_partnerOf_87 (by decide) ?_
          exact r_iret dX2_partnerOf_88 rfl rfl rfl
        · first | exact absurd h79 (by decide) | exact absurd (by decide) h79
      · exact absurd rfl h31
    | some e =>
      have he : e < 8 := bes_lt hb
      obtain ⟨-, -, e4, b4⟩ := hS e he
      have hx : nI ((f d + 2) % 4) = nI ((f d + 2) % 4) := rfl
      cases hp : p e with
      | false =>
        have hr : mate c f p g d = none := by simp [mate, hg3, hb, hp]
        rw [hr]
        refine r_aload_n dX2_partnerOf_17 rfl ?_
        refine r_iload_n dX2_partnerOf_18 rfl ?_
        refine r_iconst (v := (nI 0)) dX2_partnerOf_19 (by decide) ?_
        refine r_cV dX2_partnerOf_20 (s_beside hd (by decide) hS hs) lX2_103 rfl rfl rfl (by decide) ⟨Nat.le_refl _, Nat.le_refl _⟩ (Nat.le_of_ble_eq_true rfl) ?_
        rw [hb]
        refine r_istore (ls' := [_, _, _, _, _, _]) dX2_partnerOf_23 (by decide) rfl ?_
        refine r_pc 25 rfl ?_
        refine r_iload dX2_partnerOf_25 rfl ?_
        refine r_iload_n dX2_partnerOf_27 rfl ?_
        refine r_cS dX2_partnerOf_28 (s_isInO _ p (some e) (fun _ h => by cases h; exact he)) lX2_81 rfl rfl (by decide) ⟨Nat.le_refl _, Nat.le_refl _⟩ (Nat.le_of_ble_eq_true rfl) ?_
        dsimp only
        rw [hp]
        refine r_if_eq 74 dX2_partnerOf_31 (by decide) (fun h31 => ?_) (fun h31 => ?_)
        · refine r_pc 74 rfl ?_
          refine r_iconst (v := (nI 0)) dX2_partnerOf_74 (by decide) ?_
          refine r_istore (ls' := [_, _, _, _, _, _]) dX2_partnerOf_75 (by decide) rfl ?_
          refine r_iload dX2_partnerOf_77 rfl ?_
          refine r_if_eq 87 dX2_partnerOf_79 (by decide) (fun h79 => ?_) (fun h79 => ?_)
          · refine r_pc 87 rfl ?_
            refine r_iconst (v := (-1)) dX2_partnerOf_87 (by decide) ?_
            exact r_iret dX2_partnerOf_88 rfl rfl rfl
          · first | exact absurd h79 (by decide) | exact absurd (by decide) h79
        · exact absurd rfl h31
      | true =>
        refine r_aload_n dX2_partnerOf_17 rfl ?_
        refine r_iload_n dX2_partnerOf_18 rfl ?_
        refine r_iconst (v := (nI 0)) dX2_partnerOf_19 (by decide) ?_
        refine r_cV dX2_partnerOf_20 (s_beside hd (by decide) hS hs) lX2_103 rfl rfl rfl (by decide) ⟨Nat.le_refl _, Nat.le_refl _⟩ (Nat.le_of_ble_eq_true rfl) ?_
        rw [hb]
        refine r_istore (ls' := [_, _, _, _, _, _]) dX2_partnerOf_23 (by decide) rfl ?_
        refine r_pc 25 rfl ?_
        refine r_iload dX2_partnerOf_25 rfl ?_
        refine r_iload_n dX2_partnerOf_27 rfl ?_
        refine r_cS dX2_partnerOf_28 (s_isInO _ p (some e) (fun _ h => by cases h; exact he)) lX2_81 rfl rfl (by decide) ⟨Nat.le_refl _, Nat.le_refl _⟩ (Nat.le_of_ble_eq_true rfl) ?_
        dsimp only
        rw [hp]
        refine r_if_eq 74 dX2_partnerOf_31 (by decide) (fun h31 => ?_) (fun h31 => ?_)
        · exact absurd h31 (by decide)
        · refine r_pc 34 rfl ?_
          refine r_aload_n dX2_partnerOf_34 rfl ?_
          refine r_get dX2_partnerOf_35 fX2_15 rfl rfl ?_
          refine r_iload dX2_partnerOf_38 rfl ?_
          refine r_iald dX2_partnerOf_40 rfl rfl he (by decide) ?_
          refine r_topi _ e4 ?_
          refine r_aload_n dX2_partnerOf_41 rfl ?_
          refine r_pc 42 rfl ?_
          refine r_get dX2_partnerOf_42 fX2_15 rfl rfl ?_
          refine r_iload_n dX2_partnerOf_45 rfl ?_
          refine r_iald dX2_partnerOf_46 rfl rfl hd (by decide) ?_
          refine r_topi _ e2 ?_
          refine r_iconst (v := (nI 2)) dX2_partnerOf_47 (by decide) ?_
          refine r_iaddN dX2_partnerOf_48 ?_
          refine r_pc 49 rfl ?_
          refine r_iconst (v := (nI 4)) dX2_partnerOf_49 (by decide) ?_
          refine r_iremN dX2_partnerOf_50 (by omega) (by decide) (by decide) ?_
          refine r_icmp_neN 74 dX2_partnerOf_51 (by decide) (by omega) (by omega) (fun h51 => ?_) (fun h51 => ?_)
          · have hr : mate c f p g d = none := by (simp only [mate, if_pos hg3, hb]; rw [if_neg (fun q => h51 q.2.1)])
            rw [hr]
            refine r_pc 74 rfl ?_
            refine r_iconst (v := (nI 0)) dX2_partnerOf_74 (by decide) ?_
            refine r_istore (ls' := [_, _, _, _, _, _]) dX2_partnerOf_75 (by decide) rfl ?_
            refine r_iload dX2_partnerOf_77 rfl ?_
            refine r_if_eq 87 dX2_partnerOf_79 (by decide) (fun h79 => ?_) (fun h79 => ?_)
            · refine r_pc 87 rfl ?_
              refine r_iconst (v := (-1)) dX2_partnerOf_87 (by decide) ?_
              exact r_iret dX2_partnerOf_88 rfl rfl rfl
            · first | exact absurd h79 (by decide) | exact absurd (by decide) h79
          · refine r_pc 54 rfl ?_
            refine r_iload_n dX2_partnerOf_54 rfl ?_
            refine r_bipush (v := (nI 6)) dX2_partnerOf_55 (by decide) ?_
            refine r_icmp_neN 70 dX2_partnerOf_57 (by decide) (by omega) (by omega) (fun h57 => ?_) (fun h57 => ?_)
            · have hr : mate c f p g d = some e := by (simp only [mate, if_pos hg3, hb]; rw [if_pos ⟨hp, h51, fun q => absurd q h57⟩])
              rw [hr]
              refine r_pc 70 rfl ?_
              refine r_iconst (v := (nI 1)) dX2_partnerOf_70 (by decide) ?_
              refine r_goto 75 dX2_partnerOf_71 (by decide) ?_
              refine r_istore (ls' := [_, _, _, _, _, _]) dX2_partnerOf_75 (by decide) rfl ?_
              refine r_iload dX2_partnerOf_77 rfl ?_
              refine r_if_eq 87 dX2_partnerOf_79 (by decide) (fun h79 => ?_) (fun h79 => ?_)
              · first | exact absurd h79 (by decide) | exact absurd (by decide) h79
              · refine r_pc 82 rfl ?_
                refine r_iload dX2_partnerOf_82 rfl ?_
                refine r_goto 88 dX2_partnerOf_84 (by decide) ?_
                exact r_iret dX2_partnerOf_88 rfl rfl rfl
            · refine r_pc 60 rfl ?_
              refine r_iload dX2_partnerOf_60 rfl ?_
              refine r_iconst (v := (nI 2)) dX2_partnerOf_62 (by decide) ?_
              refine r_iremN dX2_partnerOf_63 (by omega) (by decide) (by decide) ?_
              refine r_iload_n dX2_partnerOf_64 rfl ?_
              refine r_iconst (v := (nI 2)) dX2_partnerOf_65 (by decide) ?_
              refine r_pc 66 rfl ?_
              refine r_iremN dX2_partnerOf_66 (by omega) (by decide) (by decide) ?_
              refine r_icmp_eqN 74 dX2_partnerOf_67 (by decide) (by omega) (by omega) (fun h67 => ?_) (fun h67 => ?_)
              · have hr : mate c f p g d = none := by (simp only [mate, if_pos hg3, hb]; rw [if_neg (fun q => q.2.2 h57 h67)])
                rw [hr]
                refine r_pc 74 rfl ?_
                refine r_iconst (v := (nI 0)) dX2_partnerOf_74 (by decide) ?_
                refine r_istore (ls' := [_, _, _, _, _, _]) dX2_partnerOf_75 (by decide) rfl ?_
                refine r_iload dX2_partnerOf_77 rfl ?_
                refine r_if_eq 87 dX2_partnerOf_79 (by decide) (fun h79 => ?_) (fun h79 => ?_)
                · refine r_pc 87 rfl ?_
                  refine r_iconst (v := (-1)) dX2_partnerOf_87 (by decide) ?_
                  exact r_iret dX2_partnerOf_88 rfl rfl rfl
                · first | exact absurd h79 (by decide) | exact absurd (by decide) h79
              · have hr : mate c f p g d = some e := by (simp only [mate, if_pos hg3, hb]; rw [if_pos ⟨hp, h51, fun _ => h67⟩])
                rw [hr]
                refine r_pc 70 rfl ?_
                refine r_iconst (v := (nI 1)) dX2_partnerOf_70 (by decide) ?_
                refine r_goto 75 dX2_partnerOf_71 (by decide) ?_
                refine r_istore (ls' := [_, _, _, _, _, _]) dX2_partnerOf_75 (by decide) rfl ?_
                refine r_iload dX2_partnerOf_77 rfl ?_
                refine r_if_eq 87 dX2_partnerOf_79 (by decide) (fun h79 => ?_) (fun h79 => ?_)
                · first | exact absurd h79 (by decide) | exact absurd (by decide) h79
                · refine r_pc 82 rfl ?_
                  refine r_iload dX2_partnerOf_82 rfl ?_
                  refine r_goto 88 dX2_partnerOf_84 (by decide) ?_
                  exact r_iret dX2_partnerOf_88 rfl rfl rfl
  have B : ¬ (g = 5 ∨ g = 6 ∨ g = 7) → Rn mX2_partnerOf 3 0 0 (cF x0 x1 x2 x3 fc ff fs ft fu fw fy fd po, R) (some (.int (stI (mate c f p g d)))) (cF x0 x1 x2 x3 fc ff fs ft fu fw fy fd po, R) 0 0 89 [some (.ref 4), some (.int (nI d)), some (.int (mbI p 8)), some (.int (nI g)), none, none] [] (cF x0 x1 x2 x3 fc ff fs ft fu fw fy fd po, R) := by
    intro hg3
    have C : ∀ (x4 : Int32), Rn mX2_partnerOf 3 0 0 (cF x0 x1 x2 x3 fc ff fs ft fu fw fy fd po, R) (some (.int (stI (match bes c f d 3 with | none => none | some e => if p e = true ∧ f e = f d then some e else none)))) (cF x0 x1 x2 x3 fc ff fs ft fu fw fy fd po, R) 0 0 125 [some (.ref 4), some (.int (nI d)), some (.int (mbI p 8)), some (.int (nI g)), some (.int x4), none] [] (cF x0 x1 x2 x3 fc ff fs ft fu fw fy fd po, R) := by
      intro x4
      cases hb : bes c f d 3 with
      | none =>
        refine r_aload_n dX2_partnerOf_125 rfl ?_
        refine r_iload_n dX2_partnerOf_126 rfl ?_
        refine r_iconst (v := (nI 3)) dX2_partnerOf_127 (by decide) ?_
        refine r_cV dX2_partnerOf_128 (s_beside hd (by decide) hS hs) lX2_103 rfl rfl rfl (by decide) ⟨Nat.le_refl _, Nat.le_refl _⟩ (Nat.le_of_ble_eq_true rfl) ?_
        rw [hb]
        refine r_istore (ls' := [_, _, _, _, _, _]) dX2_partnerOf_131 (by decide) rfl ?_
        refine r_pc 133 rfl ?_
        refine r_iload dX2_partnerOf_133 rfl ?_
        refine r_iload_n dX2_partnerOf_135 rfl ?_
        refine r_cS dX2_partnerOf_136 (s_isInO _ p none (fun _ h => by cases h)) lX2_81 rfl rfl (by decide) ⟨Nat.le_refl _, Nat.le_refl _⟩ (Nat.le_of_ble_eq_true rfl) ?_
        refine r_if_eq 163 dX2_partnerOf_139 (by decide) (fun h139 => ?_) (fun h139 => ?_)
        · refine r_pc 163 rfl ?_
          refine r_iconst (v := (-1)) dX2_partnerOf_163 (by decide) ?_
          exact r_iret dX2_partnerOf_164 rfl rfl rfl
        · exact absurd rfl h139
      | some e =>
        have he : e < 8 := bes_lt hb
        obtain ⟨-, -, e4, b4⟩ := hS e he
        dsimp only
        cases hp : p e with
        | false =>
          rw [if_neg (fun q => by cases q.1)]
          refine r_aload_n dX2_partnerOf_125 rfl ?_
          refine r_iload_n dX2_partnerOf_126 rfl ?_
          refine r_iconst (v := (nI 3)) dX2_partnerOf_127 (by decide) ?_
          refine r_cV dX2_partnerOf_128 (s_beside hd (by decide) hS hs) lX2_103 rfl rfl rfl (by decide) ⟨Nat.le_refl _, Nat.le_refl _⟩ (Nat.le_of_ble_eq_true rfl) ?_
          rw [hb]
          refine r_istore (ls' := [_, _, _, _, _, _]) dX2_partnerOf_131 (by decide) rfl ?_
          refine r_pc 133 rfl ?_
          refine r_iload dX2_partnerOf_133 rfl ?_
          refine r_iload_n dX2_partnerOf_135 rfl ?_
          refine r_cS dX2_partnerOf_136 (s_isInO _ p (some e) (fun _ h => by cases h; exact he)) lX2_81 rfl rfl (by decide) ⟨Nat.le_refl _, Nat.le_refl _⟩ (Nat.le_of_ble_eq_true rfl) ?_
          dsimp only
          rw [hp]
          refine r_if_eq 163 dX2_partnerOf_139 (by decide) (fun h139 => ?_) (fun h139 => ?_)
          · refine r_pc 163 rfl ?_
            refine r_iconst (v := (-1)) dX2_partnerOf_163 (by decide) ?_
            exact r_iret dX2_partnerOf_164 rfl rfl rfl
          · exact absurd rfl h139
        | true =>
          refine r_aload_n dX2_partnerOf_125 rfl ?_
          refine r_iload_n dX2_partnerOf_126 rfl ?_
          refine r_iconst (v := (nI 3)) dX2_partnerOf_127 (by decide) ?_
          refine r_cV dX2_partnerOf_128 (s_beside hd (by decide) hS hs) lX2_103 rfl rfl rfl (by decide) ⟨Nat.le_refl _, Nat.le_refl _⟩ (Nat.le_of_ble_eq_true rfl) ?_
          rw [hb]
          refine r_istore (ls' := [_, _, _, _, _, _]) dX2_partnerOf_131 (by decide) rfl ?_
          refine r_pc 133 rfl ?_
          refine r_iload dX2_partnerOf_133 rfl ?_
          refine r_iload_n dX2_partnerOf_135 rfl ?_
          refine r_cS dX2_partnerOf_136 (s_isInO _ p (some e) (fun _ h => by cases h; exact he)) lX2_81 rfl rfl (by decide) ⟨Nat.le_refl _, Nat.le_refl _⟩ (Nat.le_of_ble_eq_true rfl) ?_
          dsimp only
          rw [hp]
          refine r_if_eq 163 dX2_partnerOf_139 (by decide) (fun h139 => ?_) (fun h139 => ?_)
          · exact absurd h139 (by decide)
          · refine r_pc 142 rfl ?_
            refine r_aload_n dX2_partnerOf_142 rfl ?_
            refine r_get dX2_partnerOf_143 fX2_15 rfl rfl ?_
            refine r_iload dX2_partnerOf_146 rfl ?_
            refine r_iald dX2_partnerOf_148 rfl rfl he (by decide) ?_
            refine r_topi _ e4 ?_
            refine r_aload_n dX2_partnerOf_149 rfl ?_
            refine r_pc 150 rfl ?_
            refine r_get dX2_partnerOf_150 fX2_15 rfl rfl ?_
            refine r_iload_n dX2_partnerOf_153 rfl ?_
            refine r_iald dX2_partnerOf_154 rfl rfl hd (by decide) ?_
            refine r_topi _ e2 ?_
            refine r_icmp_neN 163 dX2_partnerOf_155 (by decide) (by omega) (by omega) (fun h155 => ?_) (fun h155 => ?_)
            · rw [if_neg (fun q => h155 q.2)]
              refine r_pc 163 rfl ?_
              refine r_iconst (v := (-1)) dX2_partnerOf_163 (by decide) ?_
              exact r_iret dX2_partnerOf_164 rfl rfl rfl
            · rw [if_pos ⟨rfl, h155⟩]
              refine r_pc 158 rfl ?_
              refine r_iload dX2_partnerOf_158 rfl ?_
              refine r_goto 164 dX2_partnerOf_160 (by decide) ?_
              exact r_iret dX2_partnerOf_164 rfl rfl rfl
    cases hb : bes c f d 1 with
    | none =>
      have hr : mate c f p g d = (match bes c f d 3 with | none => none | some e => if p e = true ∧ f e = f d then some e else none) := by simp only [mate, if_neg hg3, hb]
      rw [hr]
      refine r_aload_n dX2_partnerOf_89 rfl ?_
      refine r_iload_n dX2_partnerOf_90 rfl ?_
      refine r_iconst (v := (nI 1)) dX2_partnerOf_91 (by decide) ?_
      refine r_cV dX2_partnerOf_92 (s_beside hd (by decide) hS hs) lX2_103 rfl rfl rfl (by decide) ⟨Nat.le_refl _, Nat.le_refl _⟩ (Nat.le_of_ble_eq_true rfl) ?_
      rw [hb]
      refine r_istore (ls' := [_, _, _, _, _, _]) dX2_partnerOf_95 (by decide) rfl ?_
      refine r_pc 97 rfl ?_
      refine r_iload dX2_partnerOf_97 rfl ?_
      refine r_iload_n dX2_partnerOf_99 rfl ?_
      refine r_cS dX2_partnerOf_100 (s_isInO _ p none (fun _ h => by cases h)) lX2_81 rfl rfl (by decide) ⟨Nat.le_refl _, Nat.le_refl _⟩ (Nat.le_of_ble_eq_true rfl) ?_
      refine r_if_eq 125 dX2_partnerOf_103 (by decide) (fun h103 => ?_) (fun h103 => ?_)
      · refine r_pc 125 rfl ?_
        refine r_pc 125 rfl ?_
        exact C _
      · exact absurd rfl h103
    | some e =>
      have he : e < 8 := bes_lt hb
      obtain ⟨-, -, e4, b4⟩ := hS e he
      by_cases hq : p e = true ∧ f e = f d
      · have hr : mate c f p g d = some e := by simp only [mate, if_neg hg3, hb, if_pos hq]
        rw [hr]
        refine r_aload_n dX2_partnerOf_89 rfl ?_
        refine r_iload_n dX2_partnerOf_90 rfl ?_
        refine r_iconst (v := (nI 1)) dX2_partnerOf_91 (by decide) ?_
        refine r_cV dX2_partnerOf_92 (s_beside hd (by decide) hS hs) lX2_103 rfl rfl rfl (by decide) ⟨Nat.le_refl _, Nat.le_refl _⟩ (Nat.le_of_ble_eq_true rfl) ?_
        rw [hb]
        refine r_istore (ls' := [_, _, _, _, _, _]) dX2_partnerOf_95 (by decide) rfl ?_
        refine r_pc 97 rfl ?_
        refine r_iload dX2_partnerOf_97 rfl ?_
        refine r_iload_n dX2_partnerOf_99 rfl ?_
        refine r_cS dX2_partnerOf_100 (s_isInO _ p (some e) (fun _ h => by cases h; exact he)) lX2_81 rfl rfl (by decide) ⟨Nat.le_refl _, Nat.le_refl _⟩ (Nat.le_of_ble_eq_true rfl) ?_
        dsimp only
        rw [hq.1]
        refine r_if_eq 125 dX2_partnerOf_103 (by decide) (fun h103 => ?_) (fun h103 => ?_)
        · exact absurd h103 (by decide)
        · refine r_pc 106 rfl ?_
          refine r_aload_n dX2_partnerOf_106 rfl ?_
          refine r_get dX2_partnerOf_107 fX2_15 rfl rfl ?_
          refine r_iload dX2_partnerOf_110 rfl ?_
          refine r_iald dX2_partnerOf_112 rfl rfl he (by decide) ?_
          refine r_topi _ e4 ?_
          refine r_aload_n dX2_partnerOf_113 rfl ?_
          refine r_pc 114 rfl ?_
          refine r_get dX2_partnerOf_114 fX2_15 rfl rfl ?_
          refine r_iload_n dX2_partnerOf_117 rfl ?_
          refine r_iald dX2_partnerOf_118 rfl rfl hd (by decide) ?_
          refine r_topi _ e2 ?_
          refine r_icmp_neN 125 dX2_partnerOf_119 (by decide) (by omega) (by omega) (fun h119 => ?_) (fun h119 => ?_)
          · exact absurd hq.2 h119
          · refine r_pc 122 rfl ?_
            refine r_iload dX2_partnerOf_122 rfl ?_
            exact r_iret dX2_partnerOf_124 rfl rfl rfl
      · have hr : mate c f p g d = (match bes c f d 3 with | none => none | some e => if p e = true ∧ f e = f d then some e else none) := by simp only [mate, if_neg hg3, hb, if_neg hq]
        rw [hr]
        cases hp : p e with
        | false =>
          refine r_aload_n dX2_partnerOf_89 rfl ?_
          refine r_iload_n dX2_partnerOf_90 rfl ?_
          refine r_iconst (v := (nI 1)) dX2_partnerOf_91 (by decide) ?_
          refine r_cV dX2_partnerOf_92 (s_beside hd (by decide) hS hs) lX2_103 rfl rfl rfl (by decide) ⟨Nat.le_refl _, Nat.le_refl _⟩ (Nat.le_of_ble_eq_true rfl) ?_
          rw [hb]
          refine r_istore (ls' := [_, _, _, _, _, _]) dX2_partnerOf_95 (by decide) rfl ?_
          refine r_pc 97 rfl ?_
          refine r_iload dX2_partnerOf_97 rfl ?_
          refine r_iload_n dX2_partnerOf_99 rfl ?_
          refine r_cS dX2_partnerOf_100 (s_isInO _ p (some e) (fun _ h => by cases h; exact he)) lX2_81 rfl rfl (by decide) ⟨Nat.le_refl _, Nat.le_refl _⟩ (Nat.le_of_ble_eq_true rfl) ?_
          dsimp only
          rw [hp]
          refine r_if_eq 125 dX2_partnerOf_103 (by decide) (fun h103 => ?_) (fun h103 => ?_)
          · refine r_pc 125 rfl ?_
            refine r_pc 125 rfl ?_
            exact C _
          · exact absurd rfl h103
        | true =>
          refine r_aload_n dX2_partnerOf_89 rfl ?_
          refine r_iload_n dX2_partnerOf_90 rfl ?_
          refine r_iconst (v := (nI 1)) dX2_partnerOf_91 (by decide) ?_
          refine r_cV dX2_partnerOf_92 (s_beside hd (by decide) hS hs) lX2_103 rfl rfl rfl (by decide) ⟨Nat.le_refl _, Nat.le_refl _⟩ (Nat.le_of_ble_eq_true rfl) ?_
          rw [hb]
          refine r_istore (ls' := [_, _, _, _, _, _]) dX2_partnerOf_95 (by decide) rfl ?_
          refine r_pc 97 rfl ?_
          refine r_iload dX2_partnerOf_97 rfl ?_
          refine r_iload_n dX2_partnerOf_99 rfl ?_
          refine r_cS dX2_partnerOf_100 (s_isInO _ p (some e) (fun _ h => by cases h; exact he)) lX2_81 rfl rfl (by decide) ⟨Nat.le_refl _, Nat.le_refl _⟩ (Nat.le_of_ble_eq_true rfl) ?_
          dsimp only
          rw [hp]
          refine r_if_eq 125 dX2_partnerOf_103 (by decide) (fun h103 => ?_) (fun h103 => ?_)
          · exact absurd h103 (by decide)
          · refine r_pc 106 rfl ?_
            refine r_aload_n dX2_partnerOf_106 rfl ?_
            refine r_get dX2_partnerOf_107 fX2_15 rfl rfl ?_
            refine r_iload dX2_partnerOf_110 rfl ?_
            refine r_iald dX2_partnerOf_112 rfl rfl he (by decide) ?_
            refine r_topi _ e4 ?_
            refine r_aload_n dX2_partnerOf_113 rfl ?_
            refine r_pc 114 rfl ?_
            refine r_get dX2_partnerOf_114 fX2_15 rfl rfl ?_
            refine r_iload_n dX2_partnerOf_117 rfl ?_
            refine r_iald dX2_partnerOf_118 rfl rfl hd (by decide) ?_
            refine r_topi _ e2 ?_
            refine r_icmp_neN 125 dX2_partnerOf_119 (by decide) (by omega) (by omega) (fun h119 => ?_) (fun h119 => ?_)
            · refine r_pc 125 rfl ?_
              refine r_pc 125 rfl ?_
              exact C _
            · exact absurd ⟨hp, h119⟩ hq
  refine r_iload_n dX2_partnerOf_0 rfl ?_
  refine r_iconst (v := (nI 5)) dX2_partnerOf_1 (by decide) ?_
  refine r_icmp_eqN 17 dX2_partnerOf_2 (by decide) (by omega) (by omega) (fun h2 => ?_) (fun h2 => ?_)
  · refine r_pc 17 rfl ?_
    refine r_pc 17 rfl ?_
    exact A (by omega)
  · refine r_pc 5 rfl ?_
    refine r_iload_n dX2_partnerOf_5 rfl ?_
    refine r_bipush (v := (nI 6)) dX2_partnerOf_6 (by decide) ?_
    refine r_icmp_eqN 17 dX2_partnerOf_8 (by decide) (by omega) (by omega) (fun h8 => ?_) (fun h8 => ?_)
    · refine r_pc 17 rfl ?_
      refine r_pc 17 rfl ?_
      exact A (by omega)
    · refine r_pc 11 rfl ?_
      refine r_iload_n dX2_partnerOf_11 rfl ?_
      refine r_bipush (v := (nI 7)) dX2_partnerOf_12 (by decide) ?_
      refine r_icmp_neN 89 dX2_partnerOf_14 (by decide) (by omega) (by omega) (fun h14 => ?_) (fun h14 => ?_)
      · refine r_pc 89 rfl ?_
        refine r_pc 89 rfl ?_
        exact B (by omega)
      · refine r_pc 17 rfl ?_
        refine r_pc 17 rfl ?_
        exact A (by omega)
def fl (c f : Nat → Nat) (d e : Nat) : Nat := if bes c f d 1 = some e then d else e
def fr (c f : Nat → Nat) (d e : Nat) : Nat := if bes c f d 1 = some e then e else d
theorem s_planFold {d e : Nat} (hd : d < 8) (he : e < 8) (hS : Sq fc ff c f) (hs : Sd fs c) : Sem mX2_planFold 3 0 0 [.ref 4, .int (nI d), .int (nI e)] (cF x0 x1 x2 x3 fc ff fs ft fu fw fy fd po, R) none (cF x0 x1 x2 x3 fc ff fs (upd ft (fr c f d e) (stI (nb (c (fl c f d e)) (f (fl c f d e))))) (upd fu (fr c f d e) (nI ((f (fr c f d e) + 2) % 4))) fw fy fd po, R) := by
  refine sem_of (by decide) (Nat.le_of_ble_eq_true rfl) rfl ?_
  obtain ⟨e1, b1, e2, b2⟩ := hS d hd
  obtain ⟨e3, b3, e4, b4⟩ := hS e he
  by_cases hb : bes c f d 1 = some e
  · have h1 : fl c f d e = d := by simp [fl, hb]
    have h2 : fr c f d e = e := by simp [fr, hb]
    rw [h1, h2]
    refine r_aload_n dX2_planFold_0 rfl ?_
    refine r_iload_n dX2_planFold_1 rfl ?_
    refine r_iconst (v := (nI 1)) dX2_planFold_2 (by decide) ?_
    refine r_cV dX2_planFold_3 (s_beside hd (by decide) hS hs) lX2_103 rfl rfl rfl (by decide) ⟨Nat.le_refl _, Nat.le_refl _⟩ (Nat.le_of_ble_eq_true rfl) ?_
    refine r_iload_n dX2_planFold_6 rfl ?_
    refine r_pc 7 rfl ?_
    refine r_icmp_ne 14 dX2_planFold_7 (by decide) (fun h7 => ?_) (fun h7 => ?_)
    · exact absurd (by rw [hb]; rfl) h7
    · refine r_pc 10 rfl ?_
      refine r_iconst (v := (nI 1)) dX2_planFold_10 (by decide) ?_
      refine r_goto 15 dX2_planFold_11 (by decide) ?_
      refine r_istore_n (ls' := [_, _, _, _, _, _]) dX2_planFold_15 (by decide) rfl ?_
      refine r_iload_n dX2_planFold_16 rfl ?_
      refine r_if_eq 24 dX2_planFold_17 (by decide) (fun h17 => ?_) (fun h17 => ?_)
      · first | exact absurd h17 (by decide) | exact absurd (by decide) h17
      · refine r_pc 20 rfl ?_
        refine r_iload_n dX2_planFold_20 rfl ?_
        refine r_goto 25 dX2_planFold_21 (by decide) ?_
        refine r_istore (ls' := [_, _, _, _, _, _]) dX2_planFold_25 (by decide) rfl ?_
        refine r_iload_n dX2_planFold_27 rfl ?_
        refine r_if_eq 35 dX2_planFold_28 (by decide) (fun h28 => ?_) (fun h28 => ?_)
        · first | exact absurd h28 (by decide) | exact absurd (by decide) h28
        · refine r_pc 31 rfl ?_
          refine r_iload_n dX2_planFold_31 rfl ?_
          refine r_goto 36 dX2_planFold_32 (by decide) ?_
          refine r_istore (ls' := [_, _, _, _, _, _]) dX2_planFold_36 (by decide) rfl ?_
          refine r_aload_n dX2_planFold_38 rfl ?_
          refine r_get dX2_planFold_39 fX2_21 rfl rfl ?_
          refine r_pc 42 rfl ?_
          refine r_iload dX2_planFold_42 rfl ?_
          refine r_aload_n dX2_planFold_44 rfl ?_
          refine r_get dX2_planFold_45 fX2_9 rfl rfl ?_
          refine r_iload dX2_planFold_48 rfl ?_
          refine r_iald dX2_planFold_50 rfl rfl hd (by decide) ?_
          refine r_pc 51 rfl ?_
          refine r_topi _ e1 ?_
          refine r_aload_n dX2_planFold_51 rfl ?_
          refine r_get dX2_planFold_52 fX2_15 rfl rfl ?_
          refine r_iload dX2_planFold_55 rfl ?_
          refine r_iald dX2_planFold_57 rfl rfl hd (by decide) ?_
          refine r_topi _ e2 ?_
          refine r_cS dX2_planFold_58 (s_nb _ b1 (by omega)) lX2_85 rfl rfl (by decide) ⟨Nat.le_refl _, Nat.le_refl _⟩ (Nat.le_of_ble_eq_true rfl) ?_
          refine r_pc 61 rfl ?_
          rw [Nat.mod_eq_of_lt b2]
          refine r_iast (w2 := (cF _ _ _ _ _ _ _ _ _ _ _ _ _, _)) dX2_planFold_61 rfl rfl he (by decide) rfl ?_
          refine r_aload_n dX2_planFold_62 rfl ?_
          refine r_iload dX2_planFold_63 rfl ?_
          refine r_iconst (v := (nI 2)) dX2_planFold_65 (by decide) ?_
          refine r_cVv dX2_planFold_66 (s_turn he (by decide) hS) lX2_89 rfl rfl rfl (by decide) ⟨Nat.le_refl _, Nat.le_refl _⟩ (Nat.le_of_ble_eq_true rfl) ?_
          refine r_pc 69 rfl ?_
          exact r_vret dX2_planFold_69 rfl rfl rfl
  · have h1 : fl c f d e = e := by simp [fl, hb]
    have h2 : fr c f d e = d := by simp [fr, hb]
    rw [h1, h2]
    have hne : ¬ stI (bes c f d 1) = nI e := by
      intro q
      cases hx : bes c f d 1 with
      | none => rw [hx] at q; exact nI_m1 (by omega) q.symm
      | some x =>
        rw [hx] at q
        have hx8 := bes_lt hx
        exact hb (by rw [hx, (nI_eq (by omega) (by omega)).mp q])
    refine r_aload_n dX2_planFold_0 rfl ?_
    refine r_iload_n dX2_planFold_1 rfl ?_
    refine r_iconst (v := (nI 1)) dX2_planFold_2 (by decide) ?_
    refine r_cV dX2_planFold_3 (s_beside hd (by decide) hS hs) lX2_103 rfl rfl rfl (by decide) ⟨Nat.le_refl _, Nat.le_refl _⟩ (Nat.le_of_ble_eq_true rfl) ?_
    refine r_iload_n dX2_planFold_6 rfl ?_
    refine r_pc 7 rfl ?_
    refine r_icmp_ne 14 dX2_planFold_7 (by decide) (fun h7 => ?_) (fun h7 => ?_)
    · refine r_pc 14 rfl ?_
      refine r_iconst (v := (nI 0)) dX2_planFold_14 (by decide) ?_
      refine r_istore_n (ls' := [_, _, _, _, _, _]) dX2_planFold_15 (by decide) rfl ?_
      refine r_iload_n dX2_planFold_16 rfl ?_
      refine r_if_eq 24 dX2_planFold_17 (by decide) (fun h17 => ?_) (fun h17 => ?_)
      · refine r_pc 24 rfl ?_
        refine r_iload_n dX2_planFold_24 rfl ?_
        refine r_istore (ls' := [_, _, _, _, _, _]) dX2_planFold_25 (by decide) rfl ?_
        refine r_iload_n dX2_planFold_27 rfl ?_
        refine r_if_eq 35 dX2_planFold_28 (by decide) (fun h28 => ?_) (fun h28 => ?_)
        · refine r_pc 35 rfl ?_
          refine r_iload_n dX2_planFold_35 rfl ?_
          refine r_istore (ls' := [_, _, _, _, _, _]) dX2_planFold_36 (by decide) rfl ?_
          refine r_aload_n dX2_planFold_38 rfl ?_
          refine r_get dX2_planFold_39 fX2_21 rfl rfl ?_
          refine r_iload dX2_planFold_42 rfl ?_
          refine r_pc 44 rfl ?_
          refine r_aload_n dX2_planFold_44 rfl ?_
          refine r_get dX2_planFold_45 fX2_9 rfl rfl ?_
          refine r_iload dX2_planFold_48 rfl ?_
          refine r_iald dX2_planFold_50 rfl rfl he (by decide) ?_
          refine r_topi _ e3 ?_
          refine r_aload_n dX2_planFold_51 rfl ?_
          refine r_pc 52 rfl ?_
          refine r_get dX2_planFold_52 fX2_15 rfl rfl ?_
          refine r_iload dX2_planFold_55 rfl ?_
          refine r_iald dX2_planFold_57 rfl rfl he (by decide) ?_
          refine r_topi _ e4 ?_
          refine r_cS dX2_planFold_58 (s_nb _ b3 (by omega)) lX2_85 rfl rfl (by decide) ⟨Nat.le_refl _, Nat.le_refl _⟩ (Nat.le_of_ble_eq_true rfl) ?_
          rw [Nat.mod_eq_of_lt b4]
          refine r_iast (w2 := (cF _ _ _ _ _ _ _ _ _ _ _ _ _, _)) dX2_planFold_61 rfl rfl hd (by decide) rfl ?_
          refine r_pc 62 rfl ?_
          refine r_aload_n dX2_planFold_62 rfl ?_
          refine r_iload dX2_planFold_63 rfl ?_
          refine r_iconst (v := (nI 2)) dX2_planFold_65 (by decide) ?_
          refine r_cVv dX2_planFold_66 (s_turn hd (by decide) hS) lX2_89 rfl rfl rfl (by decide) ⟨Nat.le_refl _, Nat.le_refl _⟩ (Nat.le_of_ble_eq_true rfl) ?_
          exact r_vret dX2_planFold_69 rfl rfl rfl
        · first | exact absurd h28 (by decide) | exact absurd (by decide) h28
      · first | exact absurd h17 (by decide) | exact absurd (by decide) h17
    · exact absurd h7 hne
def chr (d : Nat) : Nat := if d % 2 = 0 then 1 else 3
def chU (f : Nat → Nat) (fu : Nat → Int32) (g d e : Nat) : Nat → Int32 :=
  if g = 6 then upd (upd fu d (nI ((f d + chr d) % 4))) e (nI ((f e + chr e) % 4))
  else if g = 7 then upd (upd fu d (nI ((f d + 1) % 4))) e (nI ((f e + 1) % 4))
  else if g = 9 then upd (upd fu d (nI ((f d + 2) % 4))) e (nI ((f e + 2) % 4))
  else fu
theorem chr_lt (d : Nat) : chr d < 4 := by unfold chr; split <;> decide
theorem s_planChange {d e g : Nat} (hd : d < 8) (he : e < 8) (hg : g < 11) (hS : Sq fc ff c f) : Sem mX2_planChange 3 0 0 [.ref 4, .int (nI d), .int (nI e), .int (nI g)] (cF x0 x1 x2 x3 fc ff fs ft fu fw fy fd po, R) none (cF x0 x1 x2 x3 fc ff fs (upd (upd ft d (nI (c e))) e (nI (c d))) (chU f fu g d e) fw fy fd po, R) := by
  refine sem_of (by decide) (Nat.le_of_ble_eq_true rfl) rfl ?_
  obtain ⟨e1, b1, e2, b2⟩ := hS d hd
  obtain ⟨e3, b3, e4, b4⟩ := hS e he
  refine r_aload_n dX2_planChange_0 rfl ?_
  refine r_get dX2_planChange_1 fX2_21 rfl rfl ?_
  refine r_iload_n dX2_planChange_4 rfl ?_
  refine r_aload_n dX2_planChange_5 rfl ?_
  refine r_get dX2_planChange_6 fX2_9 rfl rfl ?_
  refine r_pc 9 rfl ?_
  refine r_iload_n dX2_planChange_9 rfl ?_
  refine r_iald dX2_planChange_10 rfl rfl he (by decide) ?_
  refine r_iast (w2 := (cF _ _ _ _ _ _ _ _ _ _ _ _ _, _)) dX2_planChange_11 rfl rfl hd (by decide) rfl ?_
  refine r_aload_n dX2_planChange_12 rfl ?_
  refine r_get dX2_planChange_13 fX2_21 rfl rfl ?_
  refine r_pc 16 rfl ?_
  refine r_iload_n dX2_planChange_16 rfl ?_
  refine r_aload_n dX2_planChange_17 rfl ?_
  refine r_get dX2_planChange_18 fX2_9 rfl rfl ?_
  refine r_iload_n dX2_planChange_21 rfl ?_
  refine r_iald dX2_planChange_22 rfl rfl hd (by decide) ?_
  refine r_pc 23 rfl ?_
  refine r_iast (w2 := (cF _ _ _ _ _ _ _ _ _ _ _ _ _, _)) dX2_planChange_23 rfl rfl he (by decide) rfl ?_
  refine r_pc 24 rfl ?_
  rw [e1, e3]
  refine r_pc 24 rfl ?_
  by_cases h6 : g = 6
  · have hc : chU f fu g d e = upd (upd fu d (nI ((f d + chr d) % 4))) e (nI ((f e + chr e) % 4)) := by simp [chU, h6]
    rw [hc]
    have E : ∀ (st : List Value), st = st := fun _ => rfl
    have G2 : Rn mX2_planChange 3 0 0 (cF x0 x1 x2 x3 fc ff fs ft fu fw fy fd po, R) none (cF x0 x1 x2 x3 fc ff fs (upd (upd ft d (nI (c e))) e (nI (c d))) (upd (upd fu d (nI ((f d + chr d) % 4))) e (nI ((f e + chr e) % 4))) fw fy fd po, R) 0 0 46 [some (.ref 4), some (.int (nI d)), some (.int (nI e)), some (.int (nI g))] [] (cF x0 x1 x2 x3 fc ff fs (upd (upd ft d (nI (c e))) e (nI (c d))) (upd fu d (nI ((f d + chr d) % 4))) fw fy fd po, R) := by
      by_cases q : e % 2 = 0
      · have hq : chr e = 1 := by simp [chr, q]
        rw [hq]
        refine r_aload_n dX2_planChange_46 rfl ?_
        refine r_iload_n dX2_planChange_47 rfl ?_
        refine r_iload_n dX2_planChange_48 rfl ?_
        refine r_iconst (v := (nI 2)) dX2_planChange_49 (by decide) ?_
        refine r_iremN dX2_planChange_50 (by omega) (by decide) (by decide) ?_
        refine r_pc 51 rfl ?_
        rw [q]
        refine r_if_ne 58 dX2_planChange_51 (by decide) (fun h51 => ?_) (fun h51 => ?_)
        · exact absurd rfl h51
        · refine r_pc 54 rfl ?_
          refine r_iconst (v := (nI 1)) dX2_planChange_54 (by decide) ?_
          refine r_goto 59 dX2_planChange_55 (by decide) ?_
          refine r_cVv dX2_planChange_59 (s_turn he (by decide) hS) lX2_89 rfl rfl rfl (by decide) ⟨Nat.le_refl _, Nat.le_refl _⟩ (Nat.le_of_ble_eq_true rfl) ?_
          refine r_goto 104 dX2_planChange_62 (by decide) ?_
          exact r_vret dX2_planChange_104 rfl rfl rfl
      · have hq : chr e = 3 := by simp [chr, q]
        rw [hq]
        refine r_aload_n dX2_planChange_46 rfl ?_
        refine r_iload_n dX2_planChange_47 rfl ?_
        refine r_iload_n dX2_planChange_48 rfl ?_
        refine r_iconst (v := (nI 2)) dX2_planChange_49 (by decide) ?_
        refine r_iremN dX2_planChange_50 (by omega) (by decide) (by decide) ?_
        refine r_pc 51 rfl ?_
        refine r_if_ne 58 dX2_planChange_51 (by decide) (fun h51 => ?_) (fun h51 => ?_)
        · refine r_pc 58 rfl ?_
          refine r_iconst (v := (nI 3)) dX2_planChange_58 (by decide) ?_
          refine r_cVv dX2_planChange_59 (s_turn he (by decide) hS) lX2_89 rfl rfl rfl (by decide) ⟨Nat.le_refl _, Nat.le_refl _⟩ (Nat.le_of_ble_eq_true rfl) ?_
          refine r_goto 104 dX2_planChange_62 (by decide) ?_
          exact r_vret dX2_planChange_104 rfl rfl rfl
        · exact absurd (nI_z (by omega) h51) q
    by_cases q : d % 2 = 0
    · have hq : chr d = 1 := by simp [chr, q]
      rw [hq] at G2 ⊢
      refine r_iload_n dX2_planChange_24 rfl ?_
      refine r_bipush (v := (nI 6)) dX2_planChange_25 (by decide) ?_
      refine r_icmp_neN 65 dX2_planChange_27 (by decide) (by omega) (by omega) (fun h27 => ?_) (fun h27 => ?_)
      · exact absurd h6 h27
      · refine r_pc 30 rfl ?_
        refine r_aload_n dX2_planChange_30 rfl ?_
        refine r_iload_n dX2_planChange_31 rfl ?_
        refine r_iload_n dX2_planChange_32 rfl ?_
        refine r_iconst (v := (nI 2)) dX2_planChange_33 (by decide) ?_
        refine r_iremN dX2_planChange_34 (by omega) (by decide) (by decide) ?_
        refine r_pc 35 rfl ?_
        rw [q]
        refine r_if_ne 42 dX2_planChange_35 (by decide) (fun h35 => ?_) (fun h35 => ?_)
        · exact absurd rfl h35
        · refine r_pc 38 rfl ?_
          refine r_iconst (v := (nI 1)) dX2_planChange_38 (by decide) ?_
          refine r_goto 43 dX2_planChange_39 (by decide) ?_
          refine r_cVv dX2_planChange_43 (s_turn hd (by decide) hS) lX2_89 rfl rfl rfl (by decide) ⟨Nat.le_refl _, Nat.le_refl _⟩ (Nat.le_of_ble_eq_true rfl) ?_
          refine r_pc 46 rfl ?_
          exact G2
    · have hq : chr d = 3 := by simp [chr, q]
      rw [hq] at G2 ⊢
      refine r_iload_n dX2_planChange_24 rfl ?_
      refine r_bipush (v := (nI 6)) dX2_planChange_25 (by decide) ?_
      refine r_icmp_neN 65 dX2_planChange_27 (by decide) (by omega) (by omega) (fun h27 => ?_) (fun h27 => ?_)
      · exact absurd h6 h27
      · refine r_pc 30 rfl ?_
        refine r_aload_n dX2_planChange_30 rfl ?_
        refine r_iload_n dX2_planChange_31 rfl ?_
        refine r_iload_n dX2_planChange_32 rfl ?_
        refine r_iconst (v := (nI 2)) dX2_planChange_33 (by decide) ?_
        refine r_iremN dX2_planChange_34 (by omega) (by decide) (by decide) ?_
        refine r_pc 35 rfl ?_
        refine r_if_ne 42 dX2_planChange_35 (by decide) (fun h35 => ?_) (fun h35 => ?_)
        · refine r_pc 42 rfl ?_
          refine r_iconst (v := (nI 3)) dX2_planChange_42 (by decide) ?_
          refine r_cVv dX2_planChange_43 (s_turn hd (by decide) hS) lX2_89 rfl rfl rfl (by decide) ⟨Nat.le_refl _, Nat.le_refl _⟩ (Nat.le_of_ble_eq_true rfl) ?_
          refine r_pc 46 rfl ?_
          exact G2
        · exact absurd (nI_z (by omega) h35) q
  · by_cases h7 : g = 7
    · have hc : chU f fu g d e = upd (upd fu d (nI ((f d + 1) % 4))) e (nI ((f e + 1) % 4)) := by simp [chU, h7]
      rw [hc]
      refine r_iload_n dX2_planChange_24 rfl ?_
      refine r_bipush (v := (nI 6)) dX2_planChange_25 (by decide) ?_
      refine r_icmp_neN 65 dX2_planChange_27 (by decide) (by omega) (by omega) (fun h27 => ?_) (fun h27 => ?_)
      · refine r_pc 65 rfl ?_
        refine r_iload_n dX2_planChange_65 rfl ?_
        refine r_bipush (v := (nI 7)) dX2_planChange_66 (by decide) ?_
        refine r_icmp_neN 86 dX2_planChange_68 (by decide) (by omega) (by omega) (fun h68 => ?_) (fun h68 => ?_)
        · exact absurd h7 h68
        · refine r_pc 71 rfl ?_
          refine r_aload_n dX2_planChange_71 rfl ?_
          refine r_iload_n dX2_planChange_72 rfl ?_
          refine r_iconst (v := (nI 1)) dX2_planChange_73 (by decide) ?_
          refine r_cVv dX2_planChange_74 (s_turn hd (by decide) hS) lX2_89 rfl rfl rfl (by decide) ⟨Nat.le_refl _, Nat.le_refl _⟩ (Nat.le_of_ble_eq_true rfl) ?_
          refine r_aload_n dX2_planChange_77 rfl ?_
          refine r_pc 78 rfl ?_
          refine r_iload_n dX2_planChange_78 rfl ?_
          refine r_iconst (v := (nI 1)) dX2_planChange_79 (by decide) ?_
          refine r_cVv dX2_planChange_80 (s_turn he (by decide) hS) lX2_89 rfl rfl rfl (by decide) ⟨Nat.le_refl _, Nat.le_refl _⟩ (Nat.le_of_ble_eq_true rfl) ?_
          refine r_goto 104 dX2_planChange_83 (by decide) ?_
          exact r_vret dX2_planChange_104 rfl rfl rfl
      · exact absurd h27 h6
    · by_cases h9 : g = 9
      · have hc : chU f fu g d e = upd (upd fu d (nI ((f d + 2) % 4))) e (nI ((f e + 2) % 4)) := by simp [chU, h9]
        rw [hc]
        refine r_iload_n dX2_planChange_24 rfl ?_
        refine r_bipush (v := (nI 6)) dX2_planChange_25 (by decide) ?_
        refine r_icmp_neN 65 dX2_planChange_27 (by decide) (by omega) (by omega) (fun h27 => ?_) (fun h27 => ?_)
        · refine r_pc 65 rfl ?_
          refine r_iload_n dX2_planChange_65 rfl ?_
          refine r_bipush (v := (nI 7)) dX2_planChange_66 (by decide) ?_
          refine r_icmp_neN 86 dX2_planChange_68 (by decide) (by omega) (by omega) (fun h68 => ?_) (fun h68 => ?_)
          · refine r_pc 86 rfl ?_
            refine r_iload_n dX2_planChange_86 rfl ?_
            refine r_bipush (v := (nI 9)) dX2_planChange_87 (by decide) ?_
            refine r_icmp_neN 104 dX2_planChange_89 (by decide) (by omega) (by omega) (fun h89 => ?_) (fun h89 => ?_)
            · exact absurd h9 h89
            · refine r_pc 92 rfl ?_
              refine r_aload_n dX2_planChange_92 rfl ?_
              refine r_iload_n dX2_planChange_93 rfl ?_
              refine r_iconst (v := (nI 2)) dX2_planChange_94 (by decide) ?_
              refine r_cVv dX2_planChange_95 (s_turn hd (by decide) hS) lX2_89 rfl rfl rfl (by decide) ⟨Nat.le_refl _, Nat.le_refl _⟩ (Nat.le_of_ble_eq_true rfl) ?_
              refine r_aload_n dX2_planChange_98 rfl ?_
              refine r_pc 99 rfl ?_
              refine r_iload_n dX2_planChange_99 rfl ?_
              refine r_iconst (v := (nI 2)) dX2_planChange_100 (by decide) ?_
              refine r_cVv dX2_planChange_101 (s_turn he (by decide) hS) lX2_89 rfl rfl rfl (by decide) ⟨Nat.le_refl _, Nat.le_refl _⟩ (Nat.le_of_ble_eq_true rfl) ?_
              exact r_vret dX2_planChange_104 rfl rfl rfl
          · exact absurd h68 h7
        · exact absurd h27 h6
      · have hc : chU f fu g d e = fu := by simp [chU, h6, h7, h9]
        rw [hc]
        refine r_iload_n dX2_planChange_24 rfl ?_
        refine r_bipush (v := (nI 6)) dX2_planChange_25 (by decide) ?_
        refine r_icmp_neN 65 dX2_planChange_27 (by decide) (by omega) (by omega) (fun h27 => ?_) (fun h27 => ?_)
        · refine r_pc 65 rfl ?_
          refine r_iload_n dX2_planChange_65 rfl ?_
          refine r_bipush (v := (nI 7)) dX2_planChange_66 (by decide) ?_
          refine r_icmp_neN 86 dX2_planChange_68 (by decide) (by omega) (by omega) (fun h68 => ?_) (fun h68 => ?_)
          · refine r_pc 86 rfl ?_
            refine r_iload_n dX2_planChange_86 rfl ?_
            refine r_bipush (v := (nI 9)) dX2_planChange_87 (by decide) ?_
            refine r_icmp_neN 104 dX2_planChange_89 (by decide) (by omega) (by omega) (fun h89 => ?_) (fun h89 => ?_)
            · refine r_pc 104 rfl ?_
              exact r_vret dX2_planChange_104 rfl rfl rfl
            · exact absurd h89 h9
          · exact absurd h68 h7
        · exact absurd h27 h6
end F5
