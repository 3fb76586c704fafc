/-! ===== a whole call's pairs ===== -/
def up {α : Type} (f : Nat → α) (k : Nat) (v : α) : Nat → α := fun j => if j = k then v else f j
theorem upd_st (t : Nat → Option Nat) (k : Nat) (v : Option Nat) : upd (fun j => stI (t j)) k (stI v) = fun j => stI (up t k v j) := by
  funext j
  by_cases h : j = k
  · subst h; rw [pk_us]; simp [up]
  · rw [pk_un h]; simp [up, h]
theorem upd_nu (t : Nat → Nat) (k : Nat) (v : Nat) : upd (fun j => nI (t j)) k (nI v) = fun j => nI (up t k v j) := by
  funext j
  by_cases h : j = k
  · subst h; rw [pk_us]; simp [up]
  · rw [pk_un h]; simp [up, h]
def pT (c f : Nat → Nat) (g d e : Nat) (t : Nat → Option Nat) : Nat → Option Nat :=
  if g = 10 then up t (fr c f d e) (nb (c (fl c f d e)) (f (fl c f d e))) else up (up t d (some (c e))) e (some (c d))
def pU (c f : Nat → Nat) (g d e : Nat) (u : Nat → Nat) : Nat → Nat :=
  if g = 10 then up u (fr c f d e) ((f (fr c f d e) + 2) % 4)
  else if g = 6 then up (up u d ((f d + chr d) % 4)) e ((f e + chr e) % 4)
  else if g = 7 then up (up u d ((f d + 1) % 4)) e ((f e + 1) % 4)
  else if g = 9 then up (up u d ((f d + 2) % 4)) e ((f e + 2) % 4)
  else u
theorem chU_nu (f u : Nat → Nat) {c : Nat → Nat} {g d e : Nat} (hg : ¬ g = 10) : chU f (fun j => nI (u j)) g d e = fun j => nI (pU c f g d e u j) := by
  unfold chU pU
  rw [if_neg hg]
  by_cases h6 : g = 6
  · rw [if_pos h6, if_pos h6, upd_nu, upd_nu]
  · rw [if_neg h6, if_neg h6]
    by_cases h7 : g = 7
    · rw [if_pos h7, if_pos h7, upd_nu, upd_nu]
    · rw [if_neg h7, if_neg h7]
      by_cases h9 : g = 9
      · rw [if_pos h9, if_pos h9, upd_nu, upd_nu]
      · rw [if_neg h9, if_neg h9]
/-- who is free, where each goes, how it faces then, how many pairs: behind the first i dancers -/
def pst (c f : Nat → Nat) (g : Nat) (p0 : Nat → Bool) : Nat → (Nat → Bool) × (Nat → Option Nat) × (Nat → Nat) × Nat
  | 0 => (p0, fun d => some (c d), f, 0)
  | i + 1 => match (pst c f g p0 i).1 i with
    | false => pst c f g p0 i
    | true => match mate c f (pst c f g p0 i).1 g i with
      | none => pst c f g p0 i
      | some e => (fun j => (pst c f g p0 i).1 j && (!decide (j = i) && !decide (j = e)), pT c f g i e (pst c f g p0 i).2.1, pU c f g i e (pst c f g p0 i).2.2.1, (pst c f g p0 i).2.2.2 + 1)
theorem mate_lt {c f : Nat → Nat} {p : Nat → Bool} {g d e : Nat} (h : mate c f p g d = some e) : e < 8 := by
  unfold mate at h
  split at h
  · split at h
    · cases h
    · rename_i hb
      split at h
      · cases h; exact bes_lt hb
      · cases h
  · split at h
    · split at h
      · cases h
      · rename_i hb
        split at h
        · cases h; exact bes_lt hb
        · cases h
    · rename_i hb
      split at h
      · cases h; exact bes_lt hb
      · split at h
        · cases h
        · rename_i hb
          split at h
          · cases h; exact bes_lt hb
          · cases h
theorem mb_clrs : ∀ b0 b1 b2 b3 b4 b5 b6 b7 : Bool, ∀ d, d < 8 → ∀ e, e < 8 → mbI (fun j => [b0, b1, b2, b3, b4, b5, b6, b7].getD j false) 8 &&& ((nI 1 <<< (nI d &&& 31) ||| nI 1 <<< (nI e &&& 31)) ^^^ -1) = mbI (fun j => [b0, b1, b2, b3, b4, b5, b6, b7].getD j false && (!decide (j = d) && !decide (j = e))) 8 := by decide +kernel
theorem mb_clr (p : Nat → Bool) {d e : Nat} (hd : d < 8) (he : e < 8) : mbI p 8 &&& ((nI 1 <<< (nI d &&& 31) ||| nI 1 <<< (nI e &&& 31)) ^^^ -1) = mbI (fun j => p j && (!decide (j = d) && !decide (j = e))) 8 := by
  have h := mb_clrs (p 0) (p 1) (p 2) (p 3) (p 4) (p 5) (p 6) (p 7) d hd e he
  rw [← mbI_ext 8 (mb_list p)] at h
  rw [h]
  exact mbI_ext 8 (fun j hj => by rw [← mb_list p j hj])
section F6
variable {x0 x1 x2 x3 : AE} {fc ff fs ft fu fw : Nat → Int32} {fy fd : Int32} {po : List AE}
variable {R : List AE} {c f : Nat → Nat}
theorem s_planPairs {p : Nat → Bool} {g : Nat} (hg : g < 11) (hS : Sq fc ff c f) (hs : Sd fs c) (hft : ∀ j, j < 8 → ft j = nI (c j)) (hfu : ∀ j, j < 8 → fu j = nI (f j)) (hfd : fd = nI 0) : Sem mX2_planPairs 4 0 0 [.ref 4, .int (mbI p 8), .int (nI g)] (cF x0 x1 x2 x3 fc ff fs ft fu fw fy fd po, R) none (cF x0 x1 x2 x3 fc ff fs (fun j => stI ((pst c f g p 8).2.1 j)) (fun j => nI ((pst c f g p 8).2.2.1 j)) fw (if (pst c f g p 8).2.2.2 = 0 then nI 4 else fy) (nI (pst c f g p 8).2.2.2) po, R) := by
  refine sem_of (by decide) (Nat.le_of_ble_eq_true rfl) rfl ?_
  generalize hw0 : (cF x0 x1 x2 x3 fc ff fs ft fu fw fy fd po, R) = w0
  have hcnt : ∀ i, (pst c f g p i).2.2.2 ≤ i := by
    intro i
    induction i with
    | zero => exact Nat.le_refl _
    | succ i ih =>
      unfold pst
      split
      · omega
      · split
        · omega
        · show _ + 1 ≤ i + 1
          omega
  have L : ∀ (m i : Nat) (x5 : Option Value), i + m = 8 → Rn mX2_planPairs 4 0 0 w0 none (cF x0 x1 x2 x3 fc ff fs (fun j => stI ((pst c f g p 8).2.1 j)) (fun j => nI ((pst c f g p 8).2.2.1 j)) fw (if (pst c f g p 8).2.2.2 = 0 then nI 4 else fy) (nI (pst c f g p 8).2.2.2) po, R) 0 0 5 [some (.ref 4), some (.int (mbI p 8)), some (.int (nI g)), some (.int (mbI (pst c f g p i).1 8)), some (.int (nI i)), x5] [] (cF x0 x1 x2 x3 fc ff fs (fun j => stI ((pst c f g p i).2.1 j)) (fun j => nI ((pst c f g p i).2.2.1 j)) fw fy (nI (pst c f g p i).2.2.2) po, R) := by
    intro m
    induction m with
    | zero =>
      intro i x5 hi
      have : i = 8 := by omega
      subst this
      have hc8 := hcnt 8
      refine r_iload dX2_planPairs_5 rfl ?_
      refine r_bipush (v := (nI 8)) dX2_planPairs_7 (by decide) ?_
      refine r_icmp_geN 100 dX2_planPairs_9 (by decide) (by omega) (by omega) (fun h9 => ?_) (fun h9 => ?_)
      · refine r_pc 100 rfl ?_
        refine r_aload_n dX2_planPairs_100 rfl ?_
        refine r_get dX2_planPairs_101 fX2_34 rfl rfl ?_
        refine r_if_ne 112 dX2_planPairs_104 (by decide) (fun h104 => ?_) (fun h104 => ?_)
        · rw [if_neg (fun q => h104 (by rw [q]; rfl))]
          refine r_pc 112 rfl ?_
          exact r_vret dX2_planPairs_112 rfl rfl rfl
        · rw [if_pos (nI_z (by omega) h104)]
          refine r_pc 107 rfl ?_
          refine r_aload_n dX2_planPairs_107 rfl ?_
          refine r_iconst (v := (nI 4)) dX2_planPairs_108 (by decide) ?_
          refine r_put (w2 := (cF _ _ _ _ _ _ _ _ _ _ _ _ _, _)) dX2_planPairs_109 fX2_30 rfl rfl (Nat.le_of_ble_eq_true rfl) (fun _ => rfl) (fun _ => rfl) rfl ?_
          exact r_vret dX2_planPairs_112 rfl rfl rfl
      · exact absurd h9 (by omega)
    | succ m ih =>
      intro i x5 hi
      have hi8 : i < 8 := by omega
      have ih := fun x5 => ih (i + 1) x5 (by omega)
      cases hp : (pst c f g p i).1 i with
      | false =>
        have he : pst c f g p (i + 1) = pst c f g p i := by rw [pst, hp]
        rw [he] at ih
        refine r_iload dX2_planPairs_5 rfl ?_
        refine r_bipush (v := (nI 8)) dX2_planPairs_7 (by decide) ?_
        refine r_icmp_geN 100 dX2_planPairs_9 (by decide) (by omega) (by omega) (fun h9 => ?_) (fun h9 => ?_)
        · exact absurd h9 (by omega)
        · refine r_pc 12 rfl ?_
          refine r_iload dX2_planPairs_12 rfl ?_
          refine r_iload_n dX2_planPairs_14 rfl ?_
          refine r_cS dX2_planPairs_15 (s_isInB _ _ hi8) lX2_81 rfl rfl (by decide) ⟨Nat.le_refl _, Nat.le_refl _⟩ (Nat.le_of_ble_eq_true rfl) ?_
          rw [hp]
          refine r_if_eq 32 dX2_planPairs_18 (by decide) (fun h18 => ?_) (fun h18 => ?_)
          · refine r_pc 32 rfl ?_
            refine r_iconst (v := (-1)) dX2_planPairs_32 (by decide) ?_
            refine r_istore (ls' := [_, _, _, _, _, _]) dX2_planPairs_33 (by decide) rfl ?_
            refine r_iload dX2_planPairs_35 rfl ?_
            refine r_iconst (v := (-1)) dX2_planPairs_37 (by decide) ?_
            refine r_icmp_ne 44 dX2_planPairs_38 (by decide) (fun h38 => ?_) (fun h38 => ?_)
            · first | exact absurd h38 (by decide) | exact absurd (by decide) h38
            · refine r_pc 41 rfl ?_
              refine r_goto 94 dX2_planPairs_41 (by decide) ?_
              refine r_inc1 (ls' := [_, _, _, _, _, _]) dX2_planPairs_94 (by decide) rfl rfl ?_
              refine r_goto 5 dX2_planPairs_97 (by decide) ?_
              refine r_pc 5 rfl ?_
              exact ih _
          · exact absurd rfl h18
      | true =>
        cases hm : mate c f (pst c f g p i).1 g i with
        | none =>
          have he : pst c f g p (i + 1) = pst c f g p i := by rw [pst, hp]; dsimp only; rw [hm]
          rw [he] at ih
          refine r_iload dX2_planPairs_5 rfl ?_
          refine r_bipush (v := (nI 8)) dX2_planPairs_7 (by decide) ?_
          refine r_icmp_geN 100 dX2_planPairs_9 (by decide) (by omega) (by omega) (fun h9 => ?_) (fun h9 => ?_)
          · exact absurd h9 (by omega)
          · refine r_pc 12 rfl ?_
            refine r_iload dX2_planPairs_12 rfl ?_
            refine r_iload_n dX2_planPairs_14 rfl ?_
            refine r_cS dX2_planPairs_15 (s_isInB _ _ hi8) lX2_81 rfl rfl (by decide) ⟨Nat.le_refl _, Nat.le_refl _⟩ (Nat.le_of_ble_eq_true rfl) ?_
            rw [hp]
            refine r_if_eq 32 dX2_planPairs_18 (by decide) (fun h18 => ?_) (fun h18 => ?_)
            · exact absurd h18 (by decide)
            · refine r_pc 21 rfl ?_
              refine r_aload_n dX2_planPairs_21 rfl ?_
              refine r_iload dX2_planPairs_22 rfl ?_
              refine r_iload_n dX2_planPairs_24 rfl ?_
              refine r_iload_n dX2_planPairs_25 rfl ?_
              refine r_cV dX2_planPairs_26 (s_partnerOf hi8 hg hS hs) lX2_92 rfl rfl rfl (by decide) ⟨Nat.le_refl _, Nat.le_refl _⟩ (Nat.le_of_ble_eq_true rfl) ?_
              refine r_pc 29 rfl ?_
              refine r_goto 33 dX2_planPairs_29 (by decide) ?_
              rw [hm]
              refine r_istore (ls' := [_, _, _, _, _, _]) dX2_planPairs_33 (by decide) rfl ?_
              refine r_iload dX2_planPairs_35 rfl ?_
              refine r_iconst (v := (-1)) dX2_planPairs_37 (by decide) ?_
              refine r_icmp_ne 44 dX2_planPairs_38 (by decide) (fun h38 => ?_) (fun h38 => ?_)
              · exact absurd rfl h38
              · refine r_pc 41 rfl ?_
                refine r_goto 94 dX2_planPairs_41 (by decide) ?_
                refine r_inc1 (ls' := [_, _, _, _, _, _]) dX2_planPairs_94 (by decide) rfl rfl ?_
                refine r_goto 5 dX2_planPairs_97 (by decide) ?_
                refine r_pc 5 rfl ?_
                exact ih _
        | some e =>
          have he8 := mate_lt hm
          have he : pst c f g p (i + 1) = (fun j => (pst c f g p i).1 j && (!decide (j = i) && !decide (j = e)), pT c f g i e (pst c f g p i).2.1, pU c f g i e (pst c f g p i).2.2.1, (pst c f g p i).2.2.2 + 1) := by rw [pst, hp]; dsimp only; rw [hm]
          rw [he] at ih
          dsimp only at ih
          rw [← mb_clr _ hi8 he8] at ih
          by_cases h10 : g = 10
          · have q1 : (fun j => stI (pT c f g i e (pst c f g p i).2.1 j)) = upd (fun j => stI ((pst c f g p i).2.1 j)) (fr c f i e) (stI (nb (c (fl c f i e)) (f (fl c f i e)))) := by rw [upd_st]; simp only [pT, if_pos h10]
            have q2 : (fun j => nI (pU c f g i e (pst c f g p i).2.2.1 j)) = upd (fun j => nI ((pst c f g p i).2.2.1 j)) (fr c f i e) (nI ((f (fr c f i e) + 2) % 4)) := by rw [upd_nu]; simp only [pU, if_pos h10]
            rw [q1, q2] at ih
            refine r_iload dX2_planPairs_5 rfl ?_
            refine r_bipush (v := (nI 8)) dX2_planPairs_7 (by decide) ?_
            refine r_icmp_geN 100 dX2_planPairs_9 (by decide) (by omega) (by omega) (fun h9 => ?_) (fun h9 => ?_)
            · exact absurd h9 (by omega)
            · refine r_pc 12 rfl ?_
              refine r_iload dX2_planPairs_12 rfl ?_
              refine r_iload_n dX2_planPairs_14 rfl ?_
              refine r_cS dX2_planPairs_15 (s_isInB _ _ hi8) lX2_81 rfl rfl (by decide) ⟨Nat.le_refl _, Nat.le_refl _⟩ (Nat.le_of_ble_eq_true rfl) ?_
              rw [hp]
              refine r_if_eq 32 dX2_planPairs_18 (by decide) (fun h18 => ?_) (fun h18 => ?_)
              · exact absurd h18 (by decide)
              · refine r_pc 21 rfl ?_
                refine r_aload_n dX2_planPairs_21 rfl ?_
                refine r_iload dX2_planPairs_22 rfl ?_
                refine r_iload_n dX2_planPairs_24 rfl ?_
                refine r_iload_n dX2_planPairs_25 rfl ?_
                refine r_cV dX2_planPairs_26 (s_partnerOf hi8 hg hS hs) lX2_92 rfl rfl rfl (by decide) ⟨Nat.le_refl _, Nat.le_refl _⟩ (Nat.le_of_ble_eq_true rfl) ?_
                refine r_pc 29 rfl ?_
                refine r_goto 33 dX2_planPairs_29 (by decide) ?_
                rw [hm]
                refine r_istore (ls' := [_, _, _, _, _, _]) dX2_planPairs_33 (by decide) rfl ?_
                refine r_iload dX2_planPairs_35 rfl ?_
                refine r_iconst (v := (-1)) dX2_planPairs_37 (by decide) ?_
                refine r_icmp_ne 44 dX2_planPairs_38 (by decide) (fun h38 => ?_) (fun h38 => ?_)
                · refine r_pc 44 rfl ?_
                  refine r_iload_n dX2_planPairs_44 rfl ?_
                  refine r_iconst (v := (nI 1)) dX2_planPairs_45 (by decide) ?_
                  refine r_iload dX2_planPairs_46 rfl ?_
                  refine r_ishl dX2_planPairs_48 ?_
                  refine r_iconst (v := (nI 1)) dX2_planPairs_49 (by decide) ?_
                  refine r_pc 50 rfl ?_
                  refine r_iload dX2_planPairs_50 rfl ?_
                  refine r_ishl dX2_planPairs_52 ?_
                  refine r_ior dX2_planPairs_53 ?_
                  refine r_iconst (v := (-1)) dX2_planPairs_54 (by decide) ?_
                  refine r_ixor dX2_planPairs_55 ?_
                  refine r_pc 56 rfl ?_
                  refine r_iand dX2_planPairs_56 ?_
                  refine r_istore_n (ls' := [_, _, _, _, _, _]) dX2_planPairs_57 (by decide) rfl ?_
                  refine r_aload_n dX2_planPairs_58 rfl ?_
                  refine r_dup dX2_planPairs_59 rfl ?_
                  refine r_get dX2_planPairs_60 fX2_34 rfl rfl ?_
                  refine r_pc 63 rfl ?_
                  refine r_iconst (v := (nI 1)) dX2_planPairs_63 (by decide) ?_
                  refine r_iaddN dX2_planPairs_64 ?_
                  refine r_put (w2 := (cF _ _ _ _ _ _ _ _ _ _ _ _ _, _)) dX2_planPairs_65 fX2_34 rfl rfl (Nat.le_of_ble_eq_true rfl) (fun _ => rfl) (fun _ => rfl) rfl ?_
                  refine r_iload_n dX2_planPairs_68 rfl ?_
                  refine r_bipush (v := (nI 10)) dX2_planPairs_69 (by decide) ?_
                  refine r_pc 71 rfl ?_
                  refine r_icmp_neN 85 dX2_planPairs_71 (by decide) (by omega) (by omega) (fun h71 => ?_) (fun h71 => ?_)
                  · exact absurd h10 h71
                  · refine r_pc 74 rfl ?_
                    refine r_aload_n dX2_planPairs_74 rfl ?_
                    refine r_iload dX2_planPairs_75 rfl ?_
                    refine r_iload dX2_planPairs_77 rfl ?_
                    refine r_cVv dX2_planPairs_79 (s_planFold hi8 he8 hS hs) lX2_96 rfl rfl rfl (by decide) ⟨Nat.le_refl _, Nat.le_refl _⟩ (Nat.le_of_ble_eq_true rfl) ?_
                    refine r_goto 94 dX2_planPairs_82 (by decide) ?_
                    refine r_inc1 (ls' := [_, _, _, _, _, _]) dX2_planPairs_94 (by decide) rfl rfl ?_
                    refine r_goto 5 dX2_planPairs_97 (by decide) ?_
                    refine r_pc 5 rfl ?_
                    exact ih _
                · exact absurd h38 (nI_m1 (by omega))
          · have q1 : (fun j => stI (pT c f g i e (pst c f g p i).2.1 j)) = upd (upd (fun j => stI ((pst c f g p i).2.1 j)) i (nI (c e))) e (nI (c i)) := by rw [show nI (c e) = stI (some (c e)) from rfl, show nI (c i) = stI (some (c i)) from rfl, upd_st, upd_st]; simp only [pT, if_neg h10]
            rw [q1, ← chU_nu f _ h10] at ih
            refine r_iload dX2_planPairs_5 rfl ?_
            refine r_bipush (v := (nI 8)) dX2_planPairs_7 (by decide) ?_
            refine r_icmp_geN 100 dX2_planPairs_9 (by decide) (by omega) (by omega) (fun h9 => ?_) (fun h9 => ?_)
            · exact absurd h9 (by omega)
            · refine r_pc 12 rfl ?_
              refine r_iload dX2_planPairs_12 rfl ?_
              refine r_iload_n dX2_planPairs_14 rfl ?_
              refine r_cS dX2_planPairs_15 (s_isInB _ _ hi8) lX2_81 rfl rfl (by decide) ⟨Nat.le_refl _, Nat.le_refl _⟩ (Nat.le_of_ble_eq_true rfl) ?_
              rw [hp]
              refine r_if_eq 32 dX2_planPairs_18 (by decide) (fun h18 => ?_) (fun h18 => ?_)
              · exact absurd h18 (by decide)
              · refine r_pc 21 rfl ?_
                refine r_aload_n dX2_planPairs_21 rfl ?_
                refine r_iload dX2_planPairs_22 rfl ?_
                refine r_iload_n dX2_planPairs_24 rfl ?_
                refine r_iload_n dX2_planPairs_25 rfl ?_
                refine r_cV dX2_planPairs_26 (s_partnerOf hi8 hg hS hs) lX2_92 rfl rfl rfl (by decide) ⟨Nat.le_refl _, Nat.le_refl _⟩ (Nat.le_of_ble_eq_true rfl) ?_
                refine r_pc 29 rfl ?_
                refine r_goto 33 dX2_planPairs_29 (by decide) ?_
                rw [hm]
                refine r_istore (ls' := [_, _, _, _, _, _]) dX2_planPairs_33 (by decide) rfl ?_
                refine r_iload dX2_planPairs_35 rfl ?_
                refine r_iconst (v := (-1)) dX2_planPairs_37 (by decide) ?_
                refine r_icmp_ne 44 dX2_planPairs_38 (by decide) (fun h38 => ?_) (fun h38 => ?_)
                · refine r_pc 44 rfl ?_
                  refine r_iload_n dX2_planPairs_44 rfl ?_
                  refine r_iconst (v := (nI 1)) dX2_planPairs_45 (by decide) ?_
                  refine r_iload dX2_planPairs_46 rfl ?_
                  refine r_ishl dX2_planPairs_48 ?_
                  refine r_iconst (v := (nI 1)) dX2_planPairs_49 (by decide) ?_
                  refine r_pc 50 rfl ?_
                  refine r_iload dX2_planPairs_50 rfl ?_
                  refine r_ishl dX2_planPairs_52 ?_
                  refine r_ior dX2_planPairs_53 ?_
                  refine r_iconst (v := (-1)) dX2_planPairs_54 (by decide) ?_
                  refine r_ixor dX2_planPairs_55 ?_
                  refine r_pc 56 rfl ?_
                  refine r_iand dX2_planPairs_56 ?_
                  refine r_istore_n (ls' := [_, _, _, _, _, _]) dX2_planPairs_57 (by decide) rfl ?_
                  refine r_aload_n dX2_planPairs_58 rfl ?_
                  refine r_dup dX2_planPairs_59 rfl ?_
                  refine r_get dX2_planPairs_60 fX2_34 rfl rfl ?_
                  refine r_pc 63 rfl ?_
                  refine r_iconst (v := (nI 1)) dX2_planPairs_63 (by decide) ?_
                  refine r_iaddN dX2_planPairs_64 ?_
                  refine r_put (w2 := (cF _ _ _ _ _ _ _ _ _ _ _ _ _, _)) dX2_planPairs_65 fX2_34 rfl rfl (Nat.le_of_ble_eq_true rfl) (fun _ => rfl) (fun _ => rfl) rfl ?_
                  refine r_iload_n dX2_planPairs_68 rfl ?_
                  refine r_bipush (v := (nI 10)) dX2_planPairs_69 (by decide) ?_
                  refine r_pc 71 rfl ?_
                  refine r_icmp_neN 85 dX2_planPairs_71 (by decide) (by omega) (by omega) (fun h71 => ?_) (fun h71 => ?_)
                  · refine r_pc 85 rfl ?_
                    refine r_aload_n dX2_planPairs_85 rfl ?_
                    refine r_iload dX2_planPairs_86 rfl ?_
                    refine r_iload dX2_planPairs_88 rfl ?_
                    refine r_iload_n dX2_planPairs_90 rfl ?_
                    refine r_cVv dX2_planPairs_91 (s_planChange hi8 he8 hg hS) lX2_99 rfl rfl rfl (by decide) ⟨Nat.le_refl _, Nat.le_refl _⟩ (Nat.le_of_ble_eq_true rfl) ?_
                    refine r_pc 94 rfl ?_
                    refine r_inc1 (ls' := [_, _, _, _, _, _]) dX2_planPairs_94 (by decide) rfl rfl ?_
                    refine r_goto 5 dX2_planPairs_97 (by decide) ?_
                    refine r_pc 5 rfl ?_
                    exact ih _
                  · exact absurd h71 h10
                · exact absurd h38 (nI_m1 (by omega))
  subst hw0
  subst hfd
  refine r_iload_n dX2_planPairs_0 rfl ?_
  refine r_istore_n (ls' := [_, _, _, _, _, _]) dX2_planPairs_1 (by decide) rfl ?_
  refine r_iconst (v := (nI 0)) dX2_planPairs_2 (by decide) ?_
  refine r_istore (ls' := [_, _, _, _, _, _]) dX2_planPairs_3 (by decide) rfl ?_
  refine r_pc 5 rfl ?_
  refine r_weq _ (weq_F (fun _ _ => rfl) (fun _ _ => rfl) (fun _ _ => rfl) hft hfu (fun _ _ => rfl)) ?_
  exact L 8 0 _ (by omega)
end F6
