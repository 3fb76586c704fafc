/-! ===== the reference: pairs ===== -/
def Fre (p0 p : Nat → Bool) (rm : Nat → Int32) : Prop := ∀ j, j < 8 → (p j = true ↔ p0 j = true ∧ rm j < 0)
def mpB (f : Nat → Nat) (p : Nat → Bool) (g d : Nat) (o : Option Nat) : Bool := match o with
  | none => false
  | some e => p e && (if 8 ≤ g then decide (f e = f d) else decide (f e = (f d + 2) % 4) && (!decide (g = 6) || !decide (d % 2 = e % 2)))
theorem upd_sn (t : Nat → Option Nat) (k : Nat) (v : Option Nat) : upd (fun j => stN (t j)) k (stN v) = fun j => stN (up t k v j) := by
  funext j
  by_cases h : j = k
  · subst h; rw [pk_us]; simp [up]
  · rw [pk_un h]; simp [up, h]
theorem upd_bo (t : Nat → Bool) (k : Nat) : upd (fun j => bI (t j)) k (nI 1) = fun j => bI (up t k true j) := by
  funext j
  by_cases h : j = k
  · subst h; rw [pk_us]; simp [up, bI]
  · rw [pk_un h]; simp [up, h]
theorem nb_ne0 : ∀ c, c < 16 → ∀ f, f < 4 → (nb c f).all (fun x => !decide (x = c)) = true := by decide +kernel
theorem bes_ne {c f : Nat → Nat} {d r e : Nat} (hc : c d < 16) (h : bes c f d r = some e) : ¬ d = e := by
  intro q
  subst q
  unfold bes at h
  split at h
  · cases h
  · rename_i x hn
    have h1 := who_some h
    have h2 := nb_ne0 (c d) hc ((f d + r) % 4) (Nat.mod_lt _ (by decide))
    rw [hn] at h2
    simp at h2
    exact h2 h1.symm
theorem mate_ne {c f : Nat → Nat} {p : Nat → Bool} {g d e : Nat} (hc : c d < 16) (h : mate c f p g d = some e) : ¬ d = e := by
  unfold mate at h
  split at h
  · split at h
    · cases h
    · rename_i hb
      split at h
      · cases h; exact bes_ne hc hb
      · cases h
  · split at h
    · split at h
      · cases h
      · rename_i hb
        split at h
        · cases h; exact bes_ne hc hb
        · cases h
    · rename_i hb
      split at h
      · cases h; exact bes_ne hc hb
      · split at h
        · cases h
        · rename_i hb
          split at h
          · cases h; exact bes_ne hc hb
          · cases h
/-- who goes -/
def gst (c f : Nat → Nat) (g : Nat) (p0 : Nat → Bool) : Nat → (Nat → Bool)
  | 0 => fun _ => false
  | i + 1 => match (pst c f g p0 i).1 i with
    | false => gst c f g p0 i
    | true => match mate c f (pst c f g p0 i).1 g i with
      | none => gst c f g p0 i
      | some e => if g = 10 then up (gst c f g p0 i) (fr c f i e) true else up (up (gst c f g p0 i) i true) e true
section R3
variable {rc rf ro rt ru rm rg : Nat → Int32} {rp rq : Int32} {ry rl : Nat → Int32} {rn ra : Int32} {rw rk : Nat → Int64} {rx rz rd : Nat → Int32} {rM rU rK : Int32} {rT rR : Nat → Int32} {rL rN rA rF : Int32} {rC : Nat → Int64} {rO rB rY rP : Nat → Int32} {rb : Int32}
variable {Q : List AE} {c f : Nat → Nat} {p0 p : Nat → Bool}
theorem m_mayPair {g d : Nat} {o : Option Nat} (hd : d < 8) (hg : g < 11) (ho : ∀ e, o = some e → e < 8) (hS : Sq rc rf c f) (hF : Fre p0 p rm) : Sem mX9_mayPair 2 0 0 [.ref 100, .int (nI g), .int (mbI p0 8), .int (nI d), .int (stN o)] (Q, mW rc rf ro rt ru rm rg rp rq ry rl rn ra rw rk rx rz rd rM rU rK rT rR rL rN rA rF rC rO rB rY rP rb) (some (.int (bI (mpB f p g d o)))) (Q, mW rc rf ro rt ru rm rg rp rq ry rl rn ra rw rk rx rz rd rM rU rK rT rR rL rN rA rF rC rO rB rY rP rb) := by
  refine sem_of (by decide) (Nat.le_of_ble_eq_true rfl) rfl ?_
  obtain ⟨e1, b1, e2, b2⟩ := hS d hd
  cases o with
  | none =>
    refine r_iload dX9_mayPair_0 rfl ?_
    refine r_if_lt 24 dX9_mayPair_2 (by decide) (fun h2 => ?_) (fun h2 => ?_)
    · refine r_pc 24 rfl ?_
      refine r_iconst (v := (nI 0)) dX9_mayPair_24 (by decide) ?_
      exact r_zret dX9_mayPair_25 rfl rfl rfl rfl
    · exact absurd (by decide) h2
  | some e =>
    have he := ho e rfl
    obtain ⟨-, -, e4, b4⟩ := hS e he
    have hf := hF e he
    cases hp : p e with
    | false =>
      have hr : mpB f p g d (some e) = false := by simp [mpB, hp]
      rw [hr]
      cases hp0 : p0 e with
      | false =>
        refine r_iload dX9_mayPair_0 rfl ?_
        refine r_if_lt 24 dX9_mayPair_2 (by decide) (fun h2 => ?_) (fun h2 => ?_)
        · exact absurd h2 (nI_pos (by omega))
        · refine r_pc 5 rfl ?_
          refine r_iload_n dX9_mayPair_5 rfl ?_
          refine r_iload dX9_mayPair_6 rfl ?_
          refine r_cS dX9_mayPair_8 (m_hasB _ p0 he) lX9_158 rfl rfl (by decide) ⟨Nat.le_refl _, Nat.le_refl _⟩ (Nat.le_of_ble_eq_true rfl) ?_
          rw [hp0]
          refine r_if_eq 24 dX9_mayPair_11 (by decide) (fun h11 => ?_) (fun h11 => ?_)
          · refine r_pc 24 rfl ?_
            refine r_iconst (v := (nI 0)) dX9_mayPair_24 (by decide) ?_
            exact r_zret dX9_mayPair_25 rfl rfl rfl rfl
          · exact absurd rfl h11
      | true =>
        have hm : ¬ rm e < 0 := fun z => by rw [hf.mpr ⟨hp0, z⟩] at hp; cases hp
        refine r_iload dX9_mayPair_0 rfl ?_
        refine r_if_lt 24 dX9_mayPair_2 (by decide) (fun h2 => ?_) (fun h2 => ?_)
        · exact absurd h2 (nI_pos (by omega))
        · refine r_pc 5 rfl ?_
          refine r_iload_n dX9_mayPair_5 rfl ?_
          refine r_iload dX9_mayPair_6 rfl ?_
          refine r_cS dX9_mayPair_8 (m_hasB _ p0 he) lX9_158 rfl rfl (by decide) ⟨Nat.le_refl _, Nat.le_refl _⟩ (Nat.le_of_ble_eq_true rfl) ?_
          rw [hp0]
          refine r_if_eq 24 dX9_mayPair_11 (by decide) (fun h11 => ?_) (fun h11 => ?_)
          · exact absurd h11 (by decide)
          · refine r_pc 14 rfl ?_
            refine r_aload_n dX9_mayPair_14 rfl ?_
            refine r_get dX9_mayPair_15 fX9_76 rfl rfl ?_
            refine r_iload dX9_mayPair_18 rfl ?_
            refine r_iald dX9_mayPair_20 rfl rfl he (by decide) ?_
            refine r_if_lt 26 dX9_mayPair_21 (by decide) (fun h21 => ?_) (fun h21 => ?_)
            · exact absurd h21 hm
            · refine r_pc 24 rfl ?_
              refine r_iconst (v := (nI 0)) dX9_mayPair_24 (by decide) ?_
              exact r_zret dX9_mayPair_25 rfl rfl rfl rfl
    | true =>
      obtain ⟨hp0, hm⟩ := hf.mp hp
      by_cases h8 : 8 ≤ g
      · have hr : mpB f p g d (some e) = decide (f e = f d) := by simp [mpB, hp, h8]
        rw [hr]
        refine r_iload dX9_mayPair_0 rfl ?_
        refine r_if_lt 24 dX9_mayPair_2 (by decide) (fun h2 => ?_) (fun h2 => ?_)
        · exact absurd h2 (nI_pos (by omega))
        · refine r_pc 5 rfl ?_
          refine r_iload_n dX9_mayPair_5 rfl ?_
          refine r_iload dX9_mayPair_6 rfl ?_
          refine r_cS dX9_mayPair_8 (m_hasB _ p0 he) lX9_158 rfl rfl (by decide) ⟨Nat.le_refl _, Nat.le_refl _⟩ (Nat.le_of_ble_eq_true rfl) ?_
          rw [hp0]
          refine r_if_eq 24 dX9_mayPair_11 (by decide) (fun h11 => ?_) (fun h11 => ?_)
          · exact absurd h11 (by decide)
          · refine r_pc 14 rfl ?_
            refine r_aload_n dX9_mayPair_14 rfl ?_
            refine r_get dX9_mayPair_15 fX9_76 rfl rfl ?_
            refine r_iload dX9_mayPair_18 rfl ?_
            refine r_iald dX9_mayPair_20 rfl rfl he (by decide) ?_
            refine r_if_lt 26 dX9_mayPair_21 (by decide) (fun h21 => ?_) (fun h21 => ?_)
            · refine r_pc 26 rfl ?_
              refine r_iload_n dX9_mayPair_26 rfl ?_
              refine r_bipush (v := (nI 8)) dX9_mayPair_27 (by decide) ?_
              refine r_icmp_ltN 54 dX9_mayPair_29 (by decide) (by omega) (by omega) (fun h29 => ?_) (fun h29 => ?_)
              · exact absurd h29 (by omega)
              · refine r_pc 32 rfl ?_
                refine r_aload_n dX9_mayPair_32 rfl ?_
                refine r_get dX9_mayPair_33 fX9_64 rfl rfl ?_
                refine r_iload dX9_mayPair_36 rfl ?_
                refine r_iald dX9_mayPair_38 rfl rfl he (by decide) ?_
                refine r_topi _ e4 ?_
                refine r_aload_n dX9_mayPair_39 rfl ?_
                refine r_pc 40 rfl ?_
                refine r_get dX9_mayPair_40 fX9_64 rfl rfl ?_
                refine r_iload_n dX9_mayPair_43 rfl ?_
                refine r_iald dX9_mayPair_44 rfl rfl hd (by decide) ?_
                refine r_topi _ e2 ?_
                refine r_icmp_neN 52 dX9_mayPair_45 (by decide) (by omega) (by omega) (fun h45 => ?_) (fun h45 => ?_)
                · rw [decide_eq_false h45]
                  refine r_pc 52 rfl ?_
                  refine r_iconst (v := (nI 0)) dX9_mayPair_52 (by decide) ?_
                  exact r_zret dX9_mayPair_53 rfl rfl rfl rfl
                · rw [decide_eq_true h45]
                  refine r_pc 48 rfl ?_
                  refine r_iconst (v := (nI 1)) dX9_mayPair_48 (by decide) ?_
                  refine r_goto 53 dX9_mayPair_49 (by decide) ?_
                  exact r_zret dX9_mayPair_53 rfl rfl rfl rfl
            · exact absurd hm h21
      · have hr : mpB f p g d (some e) = (decide (f e = (f d + 2) % 4) && (!decide (g = 6) || !decide (d % 2 = e % 2))) := by simp [mpB, hp, h8]
        rw [hr]
        refine r_iload dX9_mayPair_0 rfl ?_
        refine r_if_lt 24 dX9_mayPair_2 (by decide) (fun h2 => ?_) (fun h2 => ?_)
        · exact absurd h2 (nI_pos (by omega))
        · refine r_pc 5 rfl ?_
          refine r_iload_n dX9_mayPair_5 rfl ?_
          refine r_iload dX9_mayPair_6 rfl ?_
          refine r_cS dX9_mayPair_8 (m_hasB _ p0 he) lX9_158 rfl rfl (by decide) ⟨Nat.le_refl _, Nat.le_refl _⟩ (Nat.le_of_ble_eq_true rfl) ?_
          rw [hp0]
          refine r_if_eq 24 dX9_mayPair_11 (by decide) (fun h11 => ?_) (fun h11 => ?_)
          · exact absurd h11 (by decide)
          · refine r_pc 14 rfl ?_
            refine r_aload_n dX9_mayPair_14 rfl ?_
            refine r_get dX9_mayPair_15 fX9_76 rfl rfl ?_
            refine r_iload dX9_mayPair_18 rfl ?_
            refine r_iald dX9_mayPair_20 rfl rfl he (by decide) ?_
            refine r_if_lt 26 dX9_mayPair_21 (by decide) (fun h21 => ?_) (fun h21 => ?_)
            · refine r_pc 26 rfl ?_
              refine r_iload_n dX9_mayPair_26 rfl ?_
              refine r_bipush (v := (nI 8)) dX9_mayPair_27 (by decide) ?_
              refine r_icmp_ltN 54 dX9_mayPair_29 (by decide) (by omega) (by omega) (fun h29 => ?_) (fun h29 => ?_)
              · refine r_pc 54 rfl ?_
                refine r_aload_n dX9_mayPair_54 rfl ?_
                refine r_get dX9_mayPair_55 fX9_64 rfl rfl ?_
                refine r_iload dX9_mayPair_58 rfl ?_
                refine r_iald dX9_mayPair_60 rfl rfl he (by decide) ?_
                refine r_topi _ e4 ?_
                refine r_aload_n dX9_mayPair_61 rfl ?_
                refine r_pc 62 rfl ?_
                refine r_get dX9_mayPair_62 fX9_64 rfl rfl ?_
                refine r_iload_n dX9_mayPair_65 rfl ?_
                refine r_iald dX9_mayPair_66 rfl rfl hd (by decide) ?_
                refine r_topi _ e2 ?_
                refine r_iconst (v := (nI 2)) dX9_mayPair_67 (by decide) ?_
                refine r_iaddN dX9_mayPair_68 ?_
                refine r_pc 69 rfl ?_
                refine r_iconst (v := (nI 4)) dX9_mayPair_69 (by decide) ?_
                refine r_iremN dX9_mayPair_70 (by omega) (by decide) (by decide) ?_
                refine r_icmp_neN 94 dX9_mayPair_71 (by decide) (by omega) (by omega) (fun h71 => ?_) (fun h71 => ?_)
                · rw [decide_eq_false h71, Bool.false_and]
                  refine r_pc 94 rfl ?_
                  refine r_iconst (v := (nI 0)) dX9_mayPair_94 (by decide) ?_
                  exact r_zret dX9_mayPair_95 rfl rfl rfl rfl
                · refine r_pc 74 rfl ?_
                  refine r_iload_n dX9_mayPair_74 rfl ?_
                  refine r_bipush (v := (nI 6)) dX9_mayPair_75 (by decide) ?_
                  refine r_icmp_neN 90 dX9_mayPair_77 (by decide) (by omega) (by omega) (fun h77 => ?_) (fun h77 => ?_)
                  · rw [decide_eq_true h71, decide_eq_false h77]
                    refine r_pc 90 rfl ?_
                    refine r_iconst (v := (nI 1)) dX9_mayPair_90 (by decide) ?_
                    refine r_goto 95 dX9_mayPair_91 (by decide) ?_
                    exact r_zret dX9_mayPair_95 rfl rfl rfl rfl
                  · refine r_pc 80 rfl ?_
                    refine r_iload_n dX9_mayPair_80 rfl ?_
                    refine r_iconst (v := (nI 2)) dX9_mayPair_81 (by decide) ?_
                    refine r_iremN dX9_mayPair_82 (by omega) (by decide) (by decide) ?_
                    refine r_iload dX9_mayPair_83 rfl ?_
                    refine r_iconst (v := (nI 2)) dX9_mayPair_85 (by decide) ?_
                    refine r_pc 86 rfl ?_
                    refine r_iremN dX9_mayPair_86 (by omega) (by decide) (by decide) ?_
                    refine r_icmp_eqN 94 dX9_mayPair_87 (by decide) (by omega) (by omega) (fun h87 => ?_) (fun h87 => ?_)
                    · rw [decide_eq_true h71, decide_eq_true h77, decide_eq_true h87]
                      refine r_pc 94 rfl ?_
                      refine r_iconst (v := (nI 0)) dX9_mayPair_94 (by decide) ?_
                      exact r_zret dX9_mayPair_95 rfl rfl rfl rfl
                    · rw [decide_eq_true h71, decide_eq_true h77, decide_eq_false h87]
                      refine r_pc 90 rfl ?_
                      refine r_iconst (v := (nI 1)) dX9_mayPair_90 (by decide) ?_
                      refine r_goto 95 dX9_mayPair_91 (by decide) ?_
                      exact r_zret dX9_mayPair_95 rfl rfl rfl rfl
              · exact absurd h29 (by omega)
            · exact absurd hm h21
theorem mp_lo {g d e : Nat} (hg : g = 5 ∨ g = 6 ∨ g = 7) : mpB f p g d (some e) = true ↔ (p e = true ∧ f e = (f d + 2) % 4 ∧ (g = 6 → ¬ e % 2 = d % 2)) := by
  have h8 : ¬ 8 ≤ g := by omega
  unfold mpB
  dsimp only
  rw [if_neg h8]
  simp only [Bool.and_eq_true, Bool.or_eq_true, Bool.not_eq_true', decide_eq_true_eq, decide_eq_false_iff_not]
  constructor
  · rintro ⟨a1, a2, a3⟩
    exact ⟨a1, a2, fun z => by rcases a3 with a3 | a3; (exact absurd z a3); (exact fun y => a3 y.symm)⟩
  · rintro ⟨a1, a2, a3⟩
    refine ⟨a1, a2, ?_⟩
    by_cases z : g = 6
    · exact Or.inr (fun y => a3 z y.symm)
    · exact Or.inl z
theorem mp_hi {g d e : Nat} (hg : 8 ≤ g) : mpB f p g d (some e) = true ↔ (p e = true ∧ f e = f d) := by
  unfold mpB
  dsimp only
  rw [if_pos hg]
  simp
theorem m_mateOf {g d : Nat} (hd : d < 8) (hg : g < 11) (hg5 : 5 ≤ g) (hS : Sq rc rf c f) (hs : SdM ro c) (hF : Fre p0 p rm) : Sem mX9_mateOf 4 0 0 [.ref 100, .int (nI g), .int (mbI p0 8), .int (nI d)] (Q, mW rc rf ro rt ru rm rg rp rq ry rl rn ra rw rk rx rz rd rM rU rK rT rR rL rN rA rF rC rO rB rY rP rb) (some (.int (stN (mate c f p g d)))) (Q, mW rc rf ro rt ru rm rg rp rq ry rl rn ra rw rk rx rz rd rM rU rK rT rR rL rN rA rF rC rO rB rY rP rb) := by
  refine sem_of (by decide) (Nat.le_of_ble_eq_true rfl) rfl ?_
  by_cases h8 : 8 ≤ g
  · have hg3 : ¬ (g = 5 ∨ g = 6 ∨ g = 7) := by omega
    have C : Rn mX9_mateOf 4 0 0 (Q, mW rc rf ro rt ru rm rg rp rq ry rl rn ra rw rk rx rz rd rM rU rK rT rR rL rN rA rF rC rO rB rY rP rb) (some (.int (stN (match bes c f d 3 with | none => none | some e => if p e = true ∧ f e = f d then some e else none)))) (Q, mW rc rf ro rt ru rm rg rp rq ry rl rn ra rw rk rx rz rd rM rU rK rT rR rL rN rA rF rC rO rB rY rP rb) 0 0 57 [some (.ref 100), some (.int (nI g)), some (.int (mbI p0 8)), some (.int (nI d))] [] (Q, mW rc rf ro rt ru rm rg rp rq ry rl rn ra rw rk rx rz rd rM rU rK rT rR rL rN rA rF rC rO rB rY rP rb) := by
      cases hb : bes c f d 3 with
      | none =>
        refine r_aload_n dX9_mateOf_57 rfl ?_
        refine r_iload_n dX9_mateOf_58 rfl ?_
        refine r_iload_n dX9_mateOf_59 rfl ?_
        refine r_iload_n dX9_mateOf_60 rfl ?_
        refine r_aload_n dX9_mateOf_61 rfl ?_
        refine r_pc 62 rfl ?_
        refine r_iload_n dX9_mateOf_62 rfl ?_
        refine r_iconst (v := (nI 3)) dX9_mateOf_63 (by decide) ?_
        refine r_cV dX9_mateOf_64 (m_beside hd (by decide) hS hs) lX9_162 rfl rfl rfl (by decide) ⟨Nat.le_refl _, Nat.le_refl _⟩ (Nat.le_of_ble_eq_true rfl) ?_
        rw [hb]
        refine r_cV dX9_mateOf_67 (m_mayPair (o := none) hd hg (fun e he => by cases he) hS hF) lX9_168 rfl rfl rfl (by decide) ⟨Nat.le_refl _, Nat.le_refl _⟩ (Nat.le_of_ble_eq_true rfl) ?_
        refine r_if_eq 82 dX9_mateOf_70 (by decide) (fun h70 => ?_) (fun h70 => ?_)
        · refine r_pc 82 rfl ?_
          refine r_bipush (v := (-2)) dX9_mateOf_82 (by decide) ?_
          exact r_iret dX9_mateOf_84 rfl rfl rfl
        · exact absurd rfl h70
      | some e =>
        dsimp only
        cases hm : mpB f p g d (some e) with
        | true =>
          rw [if_pos ((mp_hi h8).mp hm)]
          refine r_aload_n dX9_mateOf_57 rfl ?_
          refine r_iload_n dX9_mateOf_58 rfl ?_
          refine r_iload_n dX9_mateOf_59 rfl ?_
          refine r_iload_n dX9_mateOf_60 rfl ?_
          refine r_aload_n dX9_mateOf_61 rfl ?_
          refine r_pc 62 rfl ?_
          refine r_iload_n dX9_mateOf_62 rfl ?_
          refine r_iconst (v := (nI 3)) dX9_mateOf_63 (by decide) ?_
          refine r_cV dX9_mateOf_64 (m_beside hd (by decide) hS hs) lX9_162 rfl rfl rfl (by decide) ⟨Nat.le_refl _, Nat.le_refl _⟩ (Nat.le_of_ble_eq_true rfl) ?_
          rw [hb]
          refine r_cV dX9_mateOf_67 (m_mayPair (o := some e) hd hg (fun e' he => by cases he; exact bes_lt hb) hS hF) lX9_168 rfl rfl rfl (by decide) ⟨Nat.le_refl _, Nat.le_refl _⟩ (Nat.le_of_ble_eq_true rfl) ?_
          rw [hm]
          refine r_if_eq 82 dX9_mateOf_70 (by decide) (fun h70 => ?_) (fun h70 => ?_)
          · exact absurd h70 (by decide)
          · refine r_pc 73 rfl ?_
            refine r_aload_n dX9_mateOf_73 rfl ?_
            refine r_iload_n dX9_mateOf_74 rfl ?_
            refine r_iconst (v := (nI 3)) dX9_mateOf_75 (by decide) ?_
            refine r_cV dX9_mateOf_76 (m_beside hd (by decide) hS hs) lX9_162 rfl rfl rfl (by decide) ⟨Nat.le_refl _, Nat.le_refl _⟩ (Nat.le_of_ble_eq_true rfl) ?_
            rw [hb]
            refine r_goto 84 dX9_mateOf_79 (by decide) ?_
            exact r_iret dX9_mateOf_84 rfl rfl rfl
        | false =>
          rw [if_neg (fun z => by rw [(mp_hi h8).mpr z] at hm; cases hm)]
          refine r_aload_n dX9_mateOf_57 rfl ?_
          refine r_iload_n dX9_mateOf_58 rfl ?_
          refine r_iload_n dX9_mateOf_59 rfl ?_
          refine r_iload_n dX9_mateOf_60 rfl ?_
          refine r_aload_n dX9_mateOf_61 rfl ?_
          refine r_pc 62 rfl ?_
          refine r_iload_n dX9_mateOf_62 rfl ?_
          refine r_iconst (v := (nI 3)) dX9_mateOf_63 (by decide) ?_
          refine r_cV dX9_mateOf_64 (m_beside hd (by decide) hS hs) lX9_162 rfl rfl rfl (by decide) ⟨Nat.le_refl _, Nat.le_refl _⟩ (Nat.le_of_ble_eq_true rfl) ?_
          rw [hb]
          refine r_cV dX9_mateOf_67 (m_mayPair (o := some e) hd hg (fun e' he => by cases he; exact bes_lt hb) hS hF) lX9_168 rfl rfl rfl (by decide) ⟨Nat.le_refl _, Nat.le_refl _⟩ (Nat.le_of_ble_eq_true rfl) ?_
          rw [hm]
          refine r_if_eq 82 dX9_mateOf_70 (by decide) (fun h70 => ?_) (fun h70 => ?_)
          · refine r_pc 82 rfl ?_
            refine r_bipush (v := (-2)) dX9_mateOf_82 (by decide) ?_
            exact r_iret dX9_mateOf_84 rfl rfl rfl
          · exact absurd rfl h70
    cases hb : bes c f d 1 with
    | none =>
      have hr : mate c f p g d = (match bes c f d 3 with | none => none | some e => if p e = true ∧ f e = f d then some e else none) := by simp only [mate, if_neg hg3, hb]; rfl
      rw [hr]
      refine r_iload_n dX9_mateOf_0 rfl ?_
      refine r_bipush (v := (nI 8)) dX9_mateOf_1 (by decide) ?_
      refine r_icmp_geN 34 dX9_mateOf_3 (by decide) (by omega) (by omega) (fun h3 => ?_) (fun h3 => ?_)
      · refine r_pc 34 rfl ?_
        refine r_aload_n dX9_mateOf_34 rfl ?_
        refine r_iload_n dX9_mateOf_35 rfl ?_
        refine r_iload_n dX9_mateOf_36 rfl ?_
        refine r_iload_n dX9_mateOf_37 rfl ?_
        refine r_aload_n dX9_mateOf_38 rfl ?_
        refine r_pc 39 rfl ?_
        refine r_iload_n dX9_mateOf_39 rfl ?_
        refine r_iconst (v := (nI 1)) dX9_mateOf_40 (by decide) ?_
        refine r_cV dX9_mateOf_41 (m_beside hd (by decide) hS hs) lX9_162 rfl rfl rfl (by decide) ⟨Nat.le_refl _, Nat.le_refl _⟩ (Nat.le_of_ble_eq_true rfl) ?_
        rw [hb]
        refine r_cV dX9_mateOf_44 (m_mayPair (o := none) hd hg (fun e he => by cases he) hS hF) lX9_168 rfl rfl rfl (by decide) ⟨Nat.le_refl _, Nat.le_refl _⟩ (Nat.le_of_ble_eq_true rfl) ?_
        refine r_if_eq 57 dX9_mateOf_47 (by decide) (fun h47 => ?_) (fun h47 => ?_)
        · refine r_pc 57 rfl ?_
          refine r_pc 57 rfl ?_
          exact C
        · exact absurd rfl h47
      · exact absurd h3 (by omega)
    | some e =>
      cases hm : mpB f p g d (some e) with
      | true =>
        have hr : mate c f p g d = some e := by simp only [mate, if_neg hg3, hb, if_pos ((mp_hi h8).mp hm)]
        rw [hr]
        refine r_iload_n dX9_mateOf_0 rfl ?_
        refine r_bipush (v := (nI 8)) dX9_mateOf_1 (by decide) ?_
        refine r_icmp_geN 34 dX9_mateOf_3 (by decide) (by omega) (by omega) (fun h3 => ?_) (fun h3 => ?_)
        · refine r_pc 34 rfl ?_
          refine r_aload_n dX9_mateOf_34 rfl ?_
          refine r_iload_n dX9_mateOf_35 rfl ?_
          refine r_iload_n dX9_mateOf_36 rfl ?_
          refine r_iload_n dX9_mateOf_37 rfl ?_
          refine r_aload_n dX9_mateOf_38 rfl ?_
          refine r_pc 39 rfl ?_
          refine r_iload_n dX9_mateOf_39 rfl ?_
          refine r_iconst (v := (nI 1)) dX9_mateOf_40 (by decide) ?_
          refine r_cV dX9_mateOf_41 (m_beside hd (by decide) hS hs) lX9_162 rfl rfl rfl (by decide) ⟨Nat.le_refl _, Nat.le_refl _⟩ (Nat.le_of_ble_eq_true rfl) ?_
          rw [hb]
          refine r_cV dX9_mateOf_44 (m_mayPair (o := some e) hd hg (fun e' he => by cases he; exact bes_lt hb) hS hF) lX9_168 rfl rfl rfl (by decide) ⟨Nat.le_refl _, Nat.le_refl _⟩ (Nat.le_of_ble_eq_true rfl) ?_
          rw [hm]
          refine r_if_eq 57 dX9_mateOf_47 (by decide) (fun h47 => ?_) (fun h47 => ?_)
          · exact absurd h47 (by decide)
          · refine r_pc 50 rfl ?_
            refine r_aload_n dX9_mateOf_50 rfl ?_
            refine r_iload_n dX9_mateOf_51 rfl ?_
            refine r_iconst (v := (nI 1)) dX9_mateOf_52 (by decide) ?_
            refine r_cV dX9_mateOf_53 (m_beside hd (by decide) hS hs) lX9_162 rfl rfl rfl (by decide) ⟨Nat.le_refl _, Nat.le_refl _⟩ (Nat.le_of_ble_eq_true rfl) ?_
            rw [hb]
            exact r_iret dX9_mateOf_56 rfl rfl rfl
        · exact absurd h3 (by omega)
      | false =>
        have hr : mate c f p g d = (match bes c f d 3 with | none => none | some e => if p e = true ∧ f e = f d then some e else none) := by
          simp only [mate, if_neg hg3, hb]
          rw [if_neg (fun z => by rw [(mp_hi h8).mpr z] at hm; cases hm)]
          rfl
        rw [hr]
        refine r_iload_n dX9_mateOf_0 rfl ?_
        refine r_bipush (v := (nI 8)) dX9_mateOf_1 (by decide) ?_
        refine r_icmp_geN 34 dX9_mateOf_3 (by decide) (by omega) (by omega) (fun h3 => ?_) (fun h3 => ?_)
        · refine r_pc 34 rfl ?_
          refine r_aload_n dX9_mateOf_34 rfl ?_
          refine r_iload_n dX9_mateOf_35 rfl ?_
          refine r_iload_n dX9_mateOf_36 rfl ?_
          refine r_iload_n dX9_mateOf_37 rfl ?_
          refine r_aload_n dX9_mateOf_38 rfl ?_
          refine r_pc 39 rfl ?_
          refine r_iload_n dX9_mateOf_39 rfl ?_
          refine r_iconst (v := (nI 1)) dX9_mateOf_40 (by decide) ?_
          refine r_cV dX9_mateOf_41 (m_beside hd (by decide) hS hs) lX9_162 rfl rfl rfl (by decide) ⟨Nat.le_refl _, Nat.le_refl _⟩ (Nat.le_of_ble_eq_true rfl) ?_
          rw [hb]
          refine r_cV dX9_mateOf_44 (m_mayPair (o := some e) hd hg (fun e' he => by cases he; exact bes_lt hb) hS hF) lX9_168 rfl rfl rfl (by decide) ⟨Nat.le_refl _, Nat.le_refl _⟩ (Nat.le_of_ble_eq_true rfl) ?_
          rw [hm]
          refine r_if_eq 57 dX9_mateOf_47 (by decide) (fun h47 => ?_) (fun h47 => ?_)
          · refine r_pc 57 rfl ?_
            refine r_pc 57 rfl ?_
            exact C
          · exact absurd rfl h47
        · exact absurd h3 (by omega)
  · have hg3 : g = 5 ∨ g = 6 ∨ g = 7 := by omega
    cases hb : bes c f d 0 with
    | none =>
      have hr : mate c f p g d = none := by simp only [mate, if_pos hg3, hb]
      rw [hr]
      refine r_iload_n dX9_mateOf_0 rfl ?_
      refine r_bipush (v := (nI 8)) dX9_mateOf_1 (by decide) ?_
      refine r_icmp_geN 34 dX9_mateOf_3 (by decide) (by omega) (by omega) (fun h3 => ?_) (fun h3 => ?_)
      · exact absurd h3 h8
      · refine r_pc 6 rfl ?_
        refine r_aload_n dX9_mateOf_6 rfl ?_
        refine r_iload_n dX9_mateOf_7 rfl ?_
        refine r_iload_n dX9_mateOf_8 rfl ?_
        refine r_iload_n dX9_mateOf_9 rfl ?_
        refine r_aload_n dX9_mateOf_10 rfl ?_
        refine r_pc 11 rfl ?_
        refine r_iload_n dX9_mateOf_11 rfl ?_
        refine r_iconst (v := (nI 0)) dX9_mateOf_12 (by decide) ?_
        refine r_cV dX9_mateOf_13 (m_beside hd (by decide) hS hs) lX9_162 rfl rfl rfl (by decide) ⟨Nat.le_refl _, Nat.le_refl _⟩ (Nat.le_of_ble_eq_true rfl) ?_
        rw [hb]
        refine r_cV dX9_mateOf_16 (m_mayPair (o := none) hd hg (fun e he => by cases he) hS hF) lX9_168 rfl rfl rfl (by decide) ⟨Nat.le_refl _, Nat.le_refl _⟩ (Nat.le_of_ble_eq_true rfl) ?_
        refine r_if_eq 31 dX9_mateOf_19 (by decide) (fun h19 => ?_) (fun h19 => ?_)
        · refine r_pc 31 rfl ?_
          refine r_bipush (v := (-2)) dX9_mateOf_31 (by decide) ?_
          exact r_iret dX9_mateOf_33 rfl rfl rfl
        · exact absurd rfl h19
    | some e =>
      cases hm : mpB f p g d (some e) with
      | true =>
        have hr : mate c f p g d = some e := by simp only [mate, if_pos hg3, hb, if_pos ((mp_lo hg3).mp hm)]
        rw [hr]
        refine r_iload_n dX9_mateOf_0 rfl ?_
        refine r_bipush (v := (nI 8)) dX9_mateOf_1 (by decide) ?_
        refine r_icmp_geN 34 dX9_mateOf_3 (by decide) (by omega) (by omega) (fun h3 => ?_) (fun h3 => ?_)
        · exact absurd h3 h8
        · refine r_pc 6 rfl ?_
          refine r_aload_n dX9_mateOf_6 rfl ?_
          refine r_iload_n dX9_mateOf_7 rfl ?_
          refine r_iload_n dX9_mateOf_8 rfl ?_
          refine r_iload_n dX9_mateOf_9 rfl ?_
          refine r_aload_n dX9_mateOf_10 rfl ?_
          refine r_pc 11 rfl ?_
          refine r_iload_n dX9_mateOf_11 rfl ?_
          refine r_iconst (v := (nI 0)) dX9_mateOf_12 (by decide) ?_
          refine r_cV dX9_mateOf_13 (m_beside hd (by decide) hS hs) lX9_162 rfl rfl rfl (by decide) ⟨Nat.le_refl _, Nat.le_refl _⟩ (Nat.le_of_ble_eq_true rfl) ?_
          rw [hb]
          refine r_cV dX9_mateOf_16 (m_mayPair (o := some e) hd hg (fun e' he => by cases he; exact bes_lt hb) hS hF) lX9_168 rfl rfl rfl (by decide) ⟨Nat.le_refl _, Nat.le_refl _⟩ (Nat.le_of_ble_eq_true rfl) ?_
          rw [hm]
          refine r_if_eq 31 dX9_mateOf_19 (by decide) (fun h19 => ?_) (fun h19 => ?_)
          · exact absurd h19 (by decide)
          · refine r_pc 22 rfl ?_
            refine r_aload_n dX9_mateOf_22 rfl ?_
            refine r_iload_n dX9_mateOf_23 rfl ?_
            refine r_iconst (v := (nI 0)) dX9_mateOf_24 (by decide) ?_
            refine r_cV dX9_mateOf_25 (m_beside hd (by decide) hS hs) lX9_162 rfl rfl rfl (by decide) ⟨Nat.le_refl _, Nat.le_refl _⟩ (Nat.le_of_ble_eq_true rfl) ?_
            rw [hb]
            refine r_goto 33 dX9_mateOf_28 (by decide) ?_
            exact r_iret dX9_mateOf_33 rfl rfl rfl
      | false =>
        have hr : mate c f p g d = none := by
          simp only [mate, if_pos hg3, hb]
          rw [if_neg (fun z => by rw [(mp_lo hg3).mpr z] at hm; cases hm)]
        rw [hr]
        refine r_iload_n dX9_mateOf_0 rfl ?_
        refine r_bipush (v := (nI 8)) dX9_mateOf_1 (by decide) ?_
        refine r_icmp_geN 34 dX9_mateOf_3 (by decide) (by omega) (by omega) (fun h3 => ?_) (fun h3 => ?_)
        · exact absurd h3 h8
        · refine r_pc 6 rfl ?_
          refine r_aload_n dX9_mateOf_6 rfl ?_
          refine r_iload_n dX9_mateOf_7 rfl ?_
          refine r_iload_n dX9_mateOf_8 rfl ?_
          refine r_iload_n dX9_mateOf_9 rfl ?_
          refine r_aload_n dX9_mateOf_10 rfl ?_
          refine r_pc 11 rfl ?_
          refine r_iload_n dX9_mateOf_11 rfl ?_
          refine r_iconst (v := (nI 0)) dX9_mateOf_12 (by decide) ?_
          refine r_cV dX9_mateOf_13 (m_beside hd (by decide) hS hs) lX9_162 rfl rfl rfl (by decide) ⟨Nat.le_refl _, Nat.le_refl _⟩ (Nat.le_of_ble_eq_true rfl) ?_
          rw [hb]
          refine r_cV dX9_mateOf_16 (m_mayPair (o := some e) hd hg (fun e' he => by cases he; exact bes_lt hb) hS hF) lX9_168 rfl rfl rfl (by decide) ⟨Nat.le_refl _, Nat.le_refl _⟩ (Nat.le_of_ble_eq_true rfl) ?_
          rw [hm]
          refine r_if_eq 31 dX9_mateOf_19 (by decide) (fun h19 => ?_) (fun h19 => ?_)
          · refine r_pc 31 rfl ?_
            refine r_bipush (v := (-2)) dX9_mateOf_31 (by decide) ?_
            exact r_iret dX9_mateOf_33 rfl rfl rfl
          · exact absurd rfl h19
theorem m_folds {d e : Nat} (hd : d < 8) (he : e < 8) (hne : ¬ d = e) (hS : Sq rc rf c f) (hs : SdM ro c) : Sem mX9_folds 4 0 0 [.ref 100, .int (nI d), .int (nI e)] (Q, mW rc rf ro rt ru rm rg rp rq ry rl rn ra rw rk rx rz rd rM rU rK rT rR rL rN rA rF rC rO rB rY rP rb) none (Q, mW rc rf ro (upd rt (fr c f d e) (stN (nb (c (fl c f d e)) (f (fl c f d e))))) (upd ru (fr c f d e) (nI ((f (fr c f d e) + 2) % 4))) rm (upd rg (fr c f d e) (nI 1)) rp rq ry rl rn ra rw rk rx rz rd rM rU rK rT rR rL rN rA rF rC rO rB rY rP rb) := by
  refine sem_of (by decide) (Nat.le_of_ble_eq_true rfl) rfl ?_
  obtain ⟨e1, b1, e2, b2⟩ := hS d hd
  obtain ⟨e3, b3, e4, b4⟩ := hS e he
  by_cases hb : bes c f d 1 = some e
  · have h1 : fl c f d e = d := by simp [fl, hb]
    have h2 : fr c f d e = e := by simp [fr, hb]
    rw [h1, h2]
    refine r_aload_n dX9_folds_0 rfl ?_
    refine r_iload_n dX9_folds_1 rfl ?_
    refine r_iconst (v := (nI 1)) dX9_folds_2 (by decide) ?_
    refine r_cV dX9_folds_3 (m_beside hd (by decide) hS hs) lX9_162 rfl rfl rfl (by decide) ⟨Nat.le_refl _, Nat.le_refl _⟩ (Nat.le_of_ble_eq_true rfl) ?_
    refine r_iload_n dX9_folds_6 rfl ?_
    refine r_pc 7 rfl ?_
    refine r_icmp_ne 14 dX9_folds_7 (by decide) (fun h7 => ?_) (fun h7 => ?_)
    · exact absurd (by rw [hb]; rfl) h7
    · refine r_pc 10 rfl ?_
      refine r_iload_n dX9_folds_10 rfl ?_
      refine r_goto 15 dX9_folds_11 (by decide) ?_
      refine r_istore_n (ls' := [_, _, _, _, _]) dX9_folds_15 (by decide) rfl ?_
      refine r_iload_n dX9_folds_16 rfl ?_
      refine r_iload_n dX9_folds_17 rfl ?_
      refine r_pc 18 rfl ?_
      refine r_icmp_neN 25 dX9_folds_18 (by decide) (by omega) (by omega) (fun h18 => ?_) (fun h18 => ?_)
      · refine r_pc 25 rfl ?_
        refine r_iload_n dX9_folds_25 rfl ?_
        refine r_istore (ls' := [_, _, _, _, _]) dX9_folds_26 (by decide) rfl ?_
        refine r_aload_n dX9_folds_28 rfl ?_
        refine r_iload_n dX9_folds_29 rfl ?_
        refine r_aload_n dX9_folds_30 rfl ?_
        refine r_pc 31 rfl ?_
        refine r_get dX9_folds_31 fX9_60 rfl rfl ?_
        refine r_iload dX9_folds_34 rfl ?_
        refine r_iald dX9_folds_36 rfl rfl hd (by decide) ?_
        refine r_topi _ e1 ?_
        refine r_aload_n dX9_folds_37 rfl ?_
        refine r_get dX9_folds_38 fX9_64 rfl rfl ?_
        refine r_pc 41 rfl ?_
        refine r_iload dX9_folds_41 rfl ?_
        refine r_iald dX9_folds_43 rfl rfl hd (by decide) ?_
        refine r_topi _ e2 ?_
        refine r_cS dX9_folds_44 (m_next _ b1 b2) lX9_151 rfl rfl (by decide) ⟨Nat.le_refl _, Nat.le_refl _⟩ (Nat.le_of_ble_eq_true rfl) ?_
        refine r_cVv dX9_folds_47 (m_goesTo he) lX9_172 rfl rfl rfl (by decide) ⟨Nat.le_refl _, Nat.le_refl _⟩ (Nat.le_of_ble_eq_true rfl) ?_
        refine r_aload_n dX9_folds_50 rfl ?_
        refine r_pc 51 rfl ?_
        refine r_iload_n dX9_folds_51 rfl ?_
        refine r_iconst (v := (nI 2)) dX9_folds_52 (by decide) ?_
        refine r_cVv dX9_folds_53 (m_turns he (by decide) hS) lX9_176 rfl rfl rfl (by decide) ⟨Nat.le_refl _, Nat.le_refl _⟩ (Nat.le_of_ble_eq_true rfl) ?_
        exact r_vret dX9_folds_56 rfl rfl rfl
      · exact absurd h18.symm hne
  · have h1 : fl c f d e = e := by simp [fl, hb]
    have h2 : fr c f d e = d := by simp [fr, hb]
    rw [h1, h2]
    have hn2 : ¬ stN (bes c f d 1) = nI e := by
      intro q
      cases hx : bes c f d 1 with
      | none => rw [hx] at q; exact nI_m2 (by omega) q.symm
      | some x =>
        rw [hx] at q
        have hx8 := bes_lt hx
        exact hb (by rw [hx, (nI_eq (by omega) (by omega)).mp q])
    refine r_aload_n dX9_folds_0 rfl ?_
    refine r_iload_n dX9_folds_1 rfl ?_
    refine r_iconst (v := (nI 1)) dX9_folds_2 (by decide) ?_
    refine r_cV dX9_folds_3 (m_beside hd (by decide) hS hs) lX9_162 rfl rfl rfl (by decide) ⟨Nat.le_refl _, Nat.le_refl _⟩ (Nat.le_of_ble_eq_true rfl) ?_
    refine r_iload_n dX9_folds_6 rfl ?_
    refine r_pc 7 rfl ?_
    refine r_icmp_ne 14 dX9_folds_7 (by decide) (fun h7 => ?_) (fun h7 => ?_)
    · refine r_pc 14 rfl ?_
      refine r_iload_n dX9_folds_14 rfl ?_
      refine r_istore_n (ls' := [_, _, _, _, _]) dX9_folds_15 (by decide) rfl ?_
      refine r_iload_n dX9_folds_16 rfl ?_
      refine r_iload_n dX9_folds_17 rfl ?_
      refine r_icmp_neN 25 dX9_folds_18 (by decide) (by omega) (by omega) (fun h18 => ?_) (fun h18 => ?_)
      · exact absurd rfl h18
      · refine r_pc 21 rfl ?_
        refine r_iload_n dX9_folds_21 rfl ?_
        refine r_goto 26 dX9_folds_22 (by decide) ?_
        refine r_istore (ls' := [_, _, _, _, _]) dX9_folds_26 (by decide) rfl ?_
        refine r_aload_n dX9_folds_28 rfl ?_
        refine r_iload_n dX9_folds_29 rfl ?_
        refine r_pc 30 rfl ?_
        refine r_aload_n dX9_folds_30 rfl ?_
        refine r_get dX9_folds_31 fX9_60 rfl rfl ?_
        refine r_iload dX9_folds_34 rfl ?_
        refine r_iald dX9_folds_36 rfl rfl he (by decide) ?_
        refine r_topi _ e3 ?_
        refine r_aload_n dX9_folds_37 rfl ?_
        refine r_pc 38 rfl ?_
        refine r_get dX9_folds_38 fX9_64 rfl rfl ?_
        refine r_iload dX9_folds_41 rfl ?_
        refine r_iald dX9_folds_43 rfl rfl he (by decide) ?_
        refine r_topi _ e4 ?_
        refine r_cS dX9_folds_44 (m_next _ b3 b4) lX9_151 rfl rfl (by decide) ⟨Nat.le_refl _, Nat.le_refl _⟩ (Nat.le_of_ble_eq_true rfl) ?_
        refine r_cVv dX9_folds_47 (m_goesTo hd) lX9_172 rfl rfl rfl (by decide) ⟨Nat.le_refl _, Nat.le_refl _⟩ (Nat.le_of_ble_eq_true rfl) ?_
        refine r_pc 50 rfl ?_
        refine r_aload_n dX9_folds_50 rfl ?_
        refine r_iload_n dX9_folds_51 rfl ?_
        refine r_iconst (v := (nI 2)) dX9_folds_52 (by decide) ?_
        refine r_cVv dX9_folds_53 (m_turns hd (by decide) hS) lX9_176 rfl rfl rfl (by decide) ⟨Nat.le_refl _, Nat.le_refl _⟩ (Nat.le_of_ble_eq_true rfl) ?_
        exact r_vret dX9_folds_56 rfl rfl rfl
    · exact absurd h7 hn2
end R3
