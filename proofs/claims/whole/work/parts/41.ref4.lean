/-! ===== the reference: pairs, rings, falls ===== -/
def rms (c f : Nat → Nat) (g : Nat) (p0 : Nat → Bool) (rm : Nat → Int32) : Nat → (Nat → Int32)
  | 0 => rm
  | i + 1 => match (pst c f g p0 i).1 i with
    | false => rms c f g p0 rm i
    | true => match mate c f (pst c f g p0 i).1 g i with
      | none => rms c f g p0 rm i
      | some e => upd (upd (rms c f g p0 rm i) i (nI e)) e (nI i)
theorem rms_Fre {c f : Nat → Nat} {g : Nat} {p0 : Nat → Bool} {rm : Nat → Int32} (h0 : ∀ j, j < 8 → rm j < 0) : ∀ i, i ≤ 8 → Fre p0 (pst c f g p0 i).1 (rms c f g p0 rm i)
  | 0, _ => fun j hj => ⟨fun h => ⟨h, h0 j hj⟩, fun h => h.1⟩
  | i + 1, hi => by
    have ih := rms_Fre (c := c) (f := f) (g := g) (p0 := p0) h0 i (by omega)
    cases hp : (pst c f g p0 i).1 i with
    | false =>
      have he : pst c f g p0 (i + 1) = pst c f g p0 i := by rw [pst, hp]
      have he3 : rms c f g p0 rm (i + 1) = rms c f g p0 rm i := by rw [rms, hp]
      rw [he, he3]
      exact ih
    | true =>
      cases hm : mate c f (pst c f g p0 i).1 g i with
      | none =>
        have he : pst c f g p0 (i + 1) = pst c f g p0 i := by rw [pst, hp]; dsimp only; rw [hm]
        have he3 : rms c f g p0 rm (i + 1) = rms c f g p0 rm i := by rw [rms, hp]; dsimp only; rw [hm]
        rw [he, he3]
        exact ih
      | some e =>
        have he : pst c f g p0 (i + 1) = (fun j => (pst c f g p0 i).1 j && (!decide (j = i) && !decide (j = e)), pT c f g i e (pst c f g p0 i).2.1, pU c f g i e (pst c f g p0 i).2.2.1, (pst c f g p0 i).2.2.2 + 1) := by rw [pst, hp]; dsimp only; rw [hm]
        have he3 : rms c f g p0 rm (i + 1) = upd (upd (rms c f g p0 rm i) i (nI e)) e (nI i) := by rw [rms, hp]; dsimp only; rw [hm]
        rw [he, he3]
        have he := mate_lt hm
        intro j hj
        dsimp only
        by_cases q : j = e
        · subst q
          rw [pk_us]
          simp
          exact fun _ => nI_pos' (by omega)
        · rw [pk_un q]
          by_cases q2 : j = i
          · subst q2
            rw [pk_us]
            simp
            exact fun _ => nI_pos' (by omega)
          · rw [pk_un q2, ← ih j hj]
            simp [q, q2]
theorem pst_cnt {c f : Nat → Nat} {g : Nat} {p : Nat → Bool} : ∀ i, (pst c f g p i).2.2.2 ≤ i
  | 0 => Nat.le_refl _
  | i + 1 => by
    have ih := pst_cnt (c := c) (f := f) (g := g) (p := p) i
    unfold pst
    split
    · omega
    · split
      · omega
      · show _ + 1 ≤ i + 1
        omega
theorem mate_par {c f : Nat → Nat} {p : Nat → Bool} {d e : Nat} (h : mate c f p 6 d = some e) : ¬ e % 2 = d % 2 := by
  unfold mate at h
  rw [if_pos (Or.inr (Or.inl rfl))] at h
  split at h
  · cases h
  · split at h
    · rename_i q
      cases h
      exact q.2.2 rfl
    · cases h
section R4
variable {rc rf ro rt ru rm rg : Nat → Int32} {rp rq : Int32} {ry rl : Nat → Int32} {rn ra : Int32} {rw rk : Nat → Int64} {rx rz rd : Nat → Int32} {rM rU rK : Int32} {rT rR : Nat → Int32} {rL rN rA rF : Int32} {rC : Nat → Int64} {rO rB rY rP : Nat → Int32} {rb : Int32}
variable {Q : List AE} {c f : Nat → Nat} {p0 : Nat → Bool}
theorem m_pairs {g : Nat} (hg : g < 11) (hg5 : 5 ≤ g) (hS : Sq rc rf c f) (hs : SdM ro c) (h0 : ∀ j, j < 8 → rm j < 0) : Sem mX9_pairs 5 0 0 [.ref 100, .int (nI g), .int (mbI p0 8)] (Q, mW rc rf ro (fun j => stN (some (c j))) (fun j => nI (f j)) rm (fun _ => bI false) (nI 0) rq ry rl rn ra rw rk rx rz rd rM rU rK rT rR rL rN rA rF rC rO rB rY rP rb) none (Q, mW rc rf ro (fun j => stN ((pst c f g p0 8).2.1 j)) (fun j => nI ((pst c f g p0 8).2.2.1 j)) (rms c f g p0 rm 8) (fun j => bI (gst c f g p0 8 j)) (nI (pst c f g p0 8).2.2.2) rq ry rl rn ra rw rk rx rz rd rM rU rK rT rR rL rN rA rF rC rO rB rY rP rb) := by
  refine sem_of (by decide) (Nat.le_of_ble_eq_true rfl) rfl ?_
  generalize hw0 : (Q, mW rc rf ro (fun j => stN (some (c j))) (fun j => nI (f j)) rm (fun _ => bI false) (nI 0) rq ry rl rn ra rw rk rx rz rd rM rU rK rT rR rL rN rA rF rC rO rB rY rP rb) = w0
  have L : ∀ (m i : Nat) (x4 : Option Value), i + m = 8 → Rn mX9_pairs 5 0 0 w0 none (Q, mW rc rf ro (fun j => stN ((pst c f g p0 8).2.1 j)) (fun j => nI ((pst c f g p0 8).2.2.1 j)) (rms c f g p0 rm 8) (fun j => bI (gst c f g p0 8 j)) (nI (pst c f g p0 8).2.2.2) rq ry rl rn ra rw rk rx rz rd rM rU rK rT rR rL rN rA rF rC rO rB rY rP rb) 0 0 2 [some (.ref 100), some (.int (nI g)), some (.int (mbI p0 8)), some (.int (nI i)), x4] [] (Q, mW rc rf ro (fun j => stN ((pst c f g p0 i).2.1 j)) (fun j => nI ((pst c f g p0 i).2.2.1 j)) (rms c f g p0 rm i) (fun j => bI (gst c f g p0 i j)) (nI (pst c f g p0 i).2.2.2) rq ry rl rn ra rw rk rx rz rd rM rU rK rT rR rL rN rA rF rC rO rB rY rP rb) := by
    intro m
    induction m with
    | zero =>
      intro i x4 hi
      have : i = 8 := by omega
      subst this
      refine r_iload_n dX9_pairs_2 rfl ?_
      refine r_bipush (v := (nI 8)) dX9_pairs_3 (by decide) ?_
      refine r_icmp_geN 194 dX9_pairs_5 (by decide) (by omega) (by omega) (fun h5 => ?_) (fun h5 => ?_)
      · refine r_pc 194 rfl ?_
        exact r_vret dX9_pairs_194 rfl rfl rfl
      · exact absurd h5 (by omega)
    | succ m ih =>
      intro i x4 hi
      have hi8 : i < 8 := by omega
      obtain ⟨e1, b1, e2, b2⟩ := hS i hi8
      have ih := fun x4 => ih (i + 1) x4 (by omega)
      have hF := rms_Fre (c := c) (f := f) (g := g) (p0 := p0) h0 i (by omega)
      cases hp : (pst c f g p0 i).1 i with
      | false =>
        have he : pst c f g p0 (i + 1) = pst c f g p0 i := by rw [pst, hp]
        have he2 : gst c f g p0 (i + 1) = gst c f g p0 i := by rw [gst, hp]
        have he3 : rms c f g p0 rm (i + 1) = rms c f g p0 rm i := by rw [rms, hp]
        rw [he, he2, he3] at ih
        cases hp0 : p0 i with
        | false =>
          refine r_iload_n dX9_pairs_2 rfl ?_
          refine r_bipush (v := (nI 8)) dX9_pairs_3 (by decide) ?_
          refine r_icmp_geN 194 dX9_pairs_5 (by decide) (by omega) (by omega) (fun h5 => ?_) (fun h5 => ?_)
          · exact absurd h5 (by omega)
          · refine r_pc 8 rfl ?_
            refine r_iload_n dX9_pairs_8 rfl ?_
            refine r_iload_n dX9_pairs_9 rfl ?_
            refine r_cS dX9_pairs_10 (m_hasB _ p0 hi8) lX9_158 rfl rfl (by decide) ⟨Nat.le_refl _, Nat.le_refl _⟩ (Nat.le_of_ble_eq_true rfl) ?_
            rw [hp0]
            refine r_if_eq 188 dX9_pairs_13 (by decide) (fun h13 => ?_) (fun h13 => ?_)
            · refine r_pc 188 rfl ?_
              refine r_inc1 (ls' := [_, _, _, _, _]) dX9_pairs_188 (by decide) rfl rfl ?_
              refine r_goto 2 dX9_pairs_191 (by decide) ?_
              refine r_pc 2 rfl ?_
              exact ih _
            · exact absurd rfl h13
        | true =>
          have hm : ¬ rms c f g p0 rm i i < 0 := fun z => by rw [(hF i hi8).mpr ⟨hp0, z⟩] at hp; cases hp
          refine r_iload_n dX9_pairs_2 rfl ?_
          refine r_bipush (v := (nI 8)) dX9_pairs_3 (by decide) ?_
          refine r_icmp_geN 194 dX9_pairs_5 (by decide) (by omega) (by omega) (fun h5 => ?_) (fun h5 => ?_)
          · exact absurd h5 (by omega)
          · refine r_pc 8 rfl ?_
            refine r_iload_n dX9_pairs_8 rfl ?_
            refine r_iload_n dX9_pairs_9 rfl ?_
            refine r_cS dX9_pairs_10 (m_hasB _ p0 hi8) lX9_158 rfl rfl (by decide) ⟨Nat.le_refl _, Nat.le_refl _⟩ (Nat.le_of_ble_eq_true rfl) ?_
            rw [hp0]
            refine r_if_eq 188 dX9_pairs_13 (by decide) (fun h13 => ?_) (fun h13 => ?_)
            · exact absurd h13 (by decide)
            · refine r_pc 16 rfl ?_
              refine r_aload_n dX9_pairs_16 rfl ?_
              refine r_get dX9_pairs_17 fX9_76 rfl rfl ?_
              refine r_iload_n dX9_pairs_20 rfl ?_
              refine r_iald dX9_pairs_21 rfl rfl hi8 (by decide) ?_
              refine r_if_lt 28 dX9_pairs_22 (by decide) (fun h22 => ?_) (fun h22 => ?_)
              · exact absurd h22 hm
              · refine r_pc 25 rfl ?_
                refine r_goto 188 dX9_pairs_25 (by decide) ?_
                refine r_inc1 (ls' := [_, _, _, _, _]) dX9_pairs_188 (by decide) rfl rfl ?_
                refine r_goto 2 dX9_pairs_191 (by decide) ?_
                refine r_pc 2 rfl ?_
                exact ih _
      | true =>
        obtain ⟨hp0, hm0⟩ := (hF i hi8).mp hp
        cases hm : mate c f (pst c f g p0 i).1 g i with
        | none =>
          have he : pst c f g p0 (i + 1) = pst c f g p0 i := by rw [pst, hp]; dsimp only; rw [hm]
          have he2 : gst c f g p0 (i + 1) = gst c f g p0 i := by rw [gst, hp]; dsimp only; rw [hm]
          have he3 : rms c f g p0 rm (i + 1) = rms c f g p0 rm i := by rw [rms, hp]; dsimp only; rw [hm]
          rw [he, he2, he3] at ih
          refine r_iload_n dX9_pairs_2 rfl ?_
          refine r_bipush (v := (nI 8)) dX9_pairs_3 (by decide) ?_
          refine r_icmp_geN 194 dX9_pairs_5 (by decide) (by omega) (by omega) (fun h5 => ?_) (fun h5 => ?_)
          · exact absurd h5 (by omega)
          · refine r_pc 8 rfl ?_
            refine r_iload_n dX9_pairs_8 rfl ?_
            refine r_iload_n dX9_pairs_9 rfl ?_
            refine r_cS dX9_pairs_10 (m_hasB _ p0 hi8) lX9_158 rfl rfl (by decide) ⟨Nat.le_refl _, Nat.le_refl _⟩ (Nat.le_of_ble_eq_true rfl) ?_
            rw [hp0]
            refine r_if_eq 188 dX9_pairs_13 (by decide) (fun h13 => ?_) (fun h13 => ?_)
            · exact absurd h13 (by decide)
            · refine r_pc 16 rfl ?_
              refine r_aload_n dX9_pairs_16 rfl ?_
              refine r_get dX9_pairs_17 fX9_76 rfl rfl ?_
              refine r_iload_n dX9_pairs_20 rfl ?_
              refine r_iald dX9_pairs_21 rfl rfl hi8 (by decide) ?_
              refine r_if_lt 28 dX9_pairs_22 (by decide) (fun h22 => ?_) (fun h22 => ?_)
              · refine r_pc 28 rfl ?_
                refine r_aload_n dX9_pairs_28 rfl ?_
                refine r_iload_n dX9_pairs_29 rfl ?_
                refine r_iload_n dX9_pairs_30 rfl ?_
                refine r_iload_n dX9_pairs_31 rfl ?_
                refine r_cV dX9_pairs_32 (m_mateOf hi8 hg hg5 hS hs hF) lX9_179 rfl rfl rfl (by decide) ⟨Nat.le_refl _, Nat.le_refl _⟩ (Nat.le_of_ble_eq_true rfl) ?_
                refine r_pc 35 rfl ?_
                rw [hm]
                refine r_istore (ls' := [_, _, _, _, _]) dX9_pairs_35 (by decide) rfl ?_
                refine r_iload dX9_pairs_37 rfl ?_
                refine r_if_ge 45 dX9_pairs_39 (by decide) (fun h39 => ?_) (fun h39 => ?_)
                · exact absurd h39 (by decide)
                · refine r_pc 42 rfl ?_
                  refine r_goto 188 dX9_pairs_42 (by decide) ?_
                  refine r_inc1 (ls' := [_, _, _, _, _]) dX9_pairs_188 (by decide) rfl rfl ?_
                  refine r_goto 2 dX9_pairs_191 (by decide) ?_
                  refine r_pc 2 rfl ?_
                  exact ih _
              · exact absurd hm0 h22
        | some e =>
          have he8 := mate_lt hm
          obtain ⟨e3, b3, e4, b4⟩ := hS e he8
          have hne := mate_ne b1 hm
          have he : pst c f g p0 (i + 1) = (fun j => (pst c f g p0 i).1 j && (!decide (j = i) && !decide (j = e)), pT c f g i e (pst c f g p0 i).2.1, pU c f g i e (pst c f g p0 i).2.2.1, (pst c f g p0 i).2.2.2 + 1) := by rw [pst, hp]; dsimp only; rw [hm]
          have he2 : gst c f g p0 (i + 1) = if g = 10 then up (gst c f g p0 i) (fr c f i e) true else up (up (gst c f g p0 i) i true) e true := by rw [gst, hp]; dsimp only; rw [hm]
          have he3 : rms c f g p0 rm (i + 1) = upd (upd (rms c f g p0 rm i) i (nI e)) e (nI i) := by rw [rms, hp]; dsimp only; rw [hm]
          rw [he, he2, he3] at ih
          dsimp only at ih
          by_cases h10 : g = 10
          · rw [if_pos h10, ← upd_bo] at ih
            have q1 : (fun j => stN (pT c f g i e (pst c f g p0 i).2.1 j)) = upd (fun j => stN ((pst c f g p0 i).2.1 j)) (fr c f i e) (stN (nb (c (fl c f i e)) (f (fl c f i e)))) := by rw [upd_sn]; simp only [pT, if_pos h10]
            have q2 : (fun j => nI (pU c f g i e (pst c f g p0 i).2.2.1 j)) = upd (fun j => nI ((pst c f g p0 i).2.2.1 j)) (fr c f i e) (nI ((f (fr c f i e) + 2) % 4)) := by rw [upd_nu]; simp only [pU, if_pos h10]
            rw [q1, q2] at ih
            refine r_iload_n dX9_pairs_2 rfl ?_
            refine r_bipush (v := (nI 8)) dX9_pairs_3 (by decide) ?_
            refine r_icmp_geN 194 dX9_pairs_5 (by decide) (by omega) (by omega) (fun h5 => ?_) (fun h5 => ?_)
            · exact absurd h5 (by omega)
            · refine r_pc 8 rfl ?_
              refine r_iload_n dX9_pairs_8 rfl ?_
              refine r_iload_n dX9_pairs_9 rfl ?_
              refine r_cS dX9_pairs_10 (m_hasB _ p0 hi8) lX9_158 rfl rfl (by decide) ⟨Nat.le_refl _, Nat.le_refl _⟩ (Nat.le_of_ble_eq_true rfl) ?_
              rw [hp0]
              refine r_if_eq 188 dX9_pairs_13 (by decide) (fun h13 => ?_) (fun h13 => ?_)
              · exact absurd h13 (by decide)
              · refine r_pc 16 rfl ?_
                refine r_aload_n dX9_pairs_16 rfl ?_
                refine r_get dX9_pairs_17 fX9_76 rfl rfl ?_
                refine r_iload_n dX9_pairs_20 rfl ?_
                refine r_iald dX9_pairs_21 rfl rfl hi8 (by decide) ?_
                refine r_if_lt 28 dX9_pairs_22 (by decide) (fun h22 => ?_) (fun h22 => ?_)
                · refine r_pc 28 rfl ?_
                  refine r_aload_n dX9_pairs_28 rfl ?_
                  refine r_iload_n dX9_pairs_29 rfl ?_
                  refine r_iload_n dX9_pairs_30 rfl ?_
                  refine r_iload_n dX9_pairs_31 rfl ?_
                  refine r_cV dX9_pairs_32 (m_mateOf hi8 hg hg5 hS hs hF) lX9_179 rfl rfl rfl (by decide) ⟨Nat.le_refl _, Nat.le_refl _⟩ (Nat.le_of_ble_eq_true rfl) ?_
                  refine r_pc 35 rfl ?_
                  rw [hm]
                  refine r_istore (ls' := [_, _, _, _, _]) dX9_pairs_35 (by decide) rfl ?_
                  refine r_iload dX9_pairs_37 rfl ?_
                  refine r_if_ge 45 dX9_pairs_39 (by decide) (fun h39 => ?_) (fun h39 => ?_)
                  · refine r_pc 45 rfl ?_
                    refine r_aload_n dX9_pairs_45 rfl ?_
                    refine r_get dX9_pairs_46 fX9_76 rfl rfl ?_
                    refine r_iload_n dX9_pairs_49 rfl ?_
                    refine r_iload dX9_pairs_50 rfl ?_
                    refine r_iast (w2 := (_, mW _ _ _ _ _ _ _ _ _ _ _ _ _ _ _ _ _ _ _ _ _ _ _ _ _ _ _ _ _ _ _ _ _)) dX9_pairs_52 rfl rfl hi8 (by decide) rfl ?_
                    refine r_pc 53 rfl ?_
                    refine r_aload_n dX9_pairs_53 rfl ?_
                    refine r_get dX9_pairs_54 fX9_76 rfl rfl ?_
                    refine r_iload dX9_pairs_57 rfl ?_
                    refine r_iload_n dX9_pairs_59 rfl ?_
                    refine r_iast (w2 := (_, mW _ _ _ _ _ _ _ _ _ _ _ _ _ _ _ _ _ _ _ _ _ _ _ _ _ _ _ _ _ _ _ _ _)) dX9_pairs_60 rfl rfl he8 (by decide) rfl ?_
                    refine r_pc 61 rfl ?_
                    refine r_aload_n dX9_pairs_61 rfl ?_
                    refine r_dup dX9_pairs_62 rfl ?_
                    refine r_get dX9_pairs_63 fX9_183 rfl rfl ?_
                    refine r_iconst (v := (nI 1)) dX9_pairs_66 (by decide) ?_
                    refine r_iaddN dX9_pairs_67 ?_
                    refine r_pc 68 rfl ?_
                    refine r_put (w2 := (_, mW _ _ _ _ _ _ _ _ _ _ _ _ _ _ _ _ _ _ _ _ _ _ _ _ _ _ _ _ _ _ _ _ _)) dX9_pairs_68 fX9_183 rfl rfl (Nat.le_of_ble_eq_true rfl) (fun _ => rfl) (fun _ => rfl) rfl ?_
                    refine r_iload_n dX9_pairs_71 rfl ?_
                    refine r_bipush (v := (nI 10)) dX9_pairs_72 (by decide) ?_
                    refine r_icmp_neN 87 dX9_pairs_74 (by decide) (by omega) (by omega) (fun h74 => ?_) (fun h74 => ?_)
                    · exact absurd h10 h74
                    · refine r_pc 77 rfl ?_
                      refine r_aload_n dX9_pairs_77 rfl ?_
                      refine r_iload_n dX9_pairs_78 rfl ?_
                      refine r_iload dX9_pairs_79 rfl ?_
                      refine r_cVv dX9_pairs_81 (m_folds hi8 he8 hne hS hs) lX9_186 rfl rfl rfl (by decide) ⟨Nat.le_refl _, Nat.le_refl _⟩ (Nat.le_of_ble_eq_true rfl) ?_
                      refine r_goto 188 dX9_pairs_84 (by decide) ?_
                      refine r_inc1 (ls' := [_, _, _, _, _]) dX9_pairs_188 (by decide) rfl rfl ?_
                      refine r_goto 2 dX9_pairs_191 (by decide) ?_
                      refine r_pc 2 rfl ?_
                      exact ih _
                  · exact absurd (nI_pos' (by omega)) h39
                · exact absurd hm0 h22
          · rw [if_neg h10, ← upd_bo, ← upd_bo] at ih
            have q1 : (fun j => stN (pT c f g i e (pst c f g p0 i).2.1 j)) = upd (upd (fun j => stN ((pst c f g p0 i).2.1 j)) i (nI (c e))) e (nI (c i)) := by rw [show nI (c e) = stN (some (c e)) from rfl, show nI (c i) = stN (some (c i)) from rfl, upd_sn, upd_sn]; simp only [pT, if_neg h10]
            rw [q1, ← chU_nu f _ h10] at ih
            by_cases h6 : g = 6
            · have hc : ∀ fu, chU f fu g i e = upd (upd fu i (nI ((f i + chr i) % 4))) e (nI ((f e + chr e) % 4)) := fun fu => by simp [chU, h6]
              rw [hc] at ih
              have q3 := mate_par (h6 ▸ hm)
              by_cases q : i % 2 = 0
              · have hq : chr i = 1 := by simp [chr, q]
                have q4 : ¬ e % 2 = 0 := by omega
                have hq2 : chr e = 3 := by simp [chr, q4]
                rw [hq, hq2] at ih
                refine r_iload_n dX9_pairs_2 rfl ?_
                refine r_bipush (v := (nI 8)) dX9_pairs_3 (by decide) ?_
                refine r_icmp_geN 194 dX9_pairs_5 (by decide) (by omega) (by omega) (fun h5 => ?_) (fun h5 => ?_)
                · exact absurd h5 (by omega)
                · refine r_pc 8 rfl ?_
                  refine r_iload_n dX9_pairs_8 rfl ?_
                  refine r_iload_n dX9_pairs_9 rfl ?_
                  refine r_cS dX9_pairs_10 (m_hasB _ p0 hi8) lX9_158 rfl rfl (by decide) ⟨Nat.le_refl _, Nat.le_refl _⟩ (Nat.le_of_ble_eq_true rfl) ?_
                  rw [hp0]
                  refine r_if_eq 188 dX9_pairs_13 (by decide) (fun h13 => ?_) (fun h13 => ?_)
                  · exact absurd h13 (by decide)
                  · refine r_pc 16 rfl ?_
                    refine r_aload_n dX9_pairs_16 rfl ?_
                    refine r_get dX9_pairs_17 fX9_76 rfl rfl ?_
                    refine r_iload_n dX9_pairs_20 rfl ?_
                    refine r_iald dX9_pairs_21 rfl rfl hi8 (by decide) ?_
                    refine r_if_lt 28 dX9_pairs_22 (by decide) (fun h22 => ?_) (fun h22 => ?_)
                    · refine r_pc 28 rfl ?_
                      refine r_aload_n dX9_pairs_28 rfl ?_
                      refine r_iload_n dX9_pairs_29 rfl ?_
                      refine r_iload_n dX9_pairs_30 rfl ?_
                      refine r_iload_n dX9_pairs_31 rfl ?_
                      refine r_cV dX9_pairs_32 (m_mateOf hi8 hg hg5 hS hs hF) lX9_179 rfl rfl rfl (by decide) ⟨Nat.le_refl _, Nat.le_refl _⟩ (Nat.le_of_ble_eq_true rfl) ?_
                      refine r_pc 35 rfl ?_
                      rw [hm]
                      refine r_istore (ls' := [_, _, _, _, _]) dX9_pairs_35 (by decide) rfl ?_
                      refine r_iload dX9_pairs_37 rfl ?_
                      refine r_if_ge 45 dX9_pairs_39 (by decide) (fun h39 => ?_) (fun h39 => ?_)
                      · refine r_pc 45 rfl ?_
                        refine r_aload_n dX9_pairs_45 rfl ?_
                        refine r_get dX9_pairs_46 fX9_76 rfl rfl ?_
                        refine r_iload_n dX9_pairs_49 rfl ?_
                        refine r_iload dX9_pairs_50 rfl ?_
                        refine r_iast (w2 := (_, mW _ _ _ _ _ _ _ _ _ _ _ _ _ _ _ _ _ _ _ _ _ _ _ _ _ _ _ _ _ _ _ _ _)) dX9_pairs_52 rfl rfl hi8 (by decide) rfl ?_
                        refine r_pc 53 rfl ?_
                        refine r_aload_n dX9_pairs_53 rfl ?_
                        refine r_get dX9_pairs_54 fX9_76 rfl rfl ?_
                        refine r_iload dX9_pairs_57 rfl ?_
                        refine r_iload_n dX9_pairs_59 rfl ?_
                        refine r_iast (w2 := (_, mW _ _ _ _ _ _ _ _ _ _ _ _ _ _ _ _ _ _ _ _ _ _ _ _ _ _ _ _ _ _ _ _ _)) dX9_pairs_60 rfl rfl he8 (by decide) rfl ?_
                        refine r_pc 61 rfl ?_
                        refine r_aload_n dX9_pairs_61 rfl ?_
                        refine r_dup dX9_pairs_62 rfl ?_
                        refine r_get dX9_pairs_63 fX9_183 rfl rfl ?_
                        refine r_iconst (v := (nI 1)) dX9_pairs_66 (by decide) ?_
                        refine r_iaddN dX9_pairs_67 ?_
                        refine r_pc 68 rfl ?_
                        refine r_put (w2 := (_, mW _ _ _ _ _ _ _ _ _ _ _ _ _ _ _ _ _ _ _ _ _ _ _ _ _ _ _ _ _ _ _ _ _)) dX9_pairs_68 fX9_183 rfl rfl (Nat.le_of_ble_eq_true rfl) (fun _ => rfl) (fun _ => rfl) rfl ?_
                        refine r_iload_n dX9_pairs_71 rfl ?_
                        refine r_bipush (v := (nI 10)) dX9_pairs_72 (by decide) ?_
                        refine r_icmp_neN 87 dX9_pairs_74 (by decide) (by omega) (by omega) (fun h74 => ?_) (fun h74 => ?_)
                        · refine r_pc 87 rfl ?_
                          refine r_aload_n dX9_pairs_87 rfl ?_
                          refine r_iload_n dX9_pairs_88 rfl ?_
                          refine r_aload_n dX9_pairs_89 rfl ?_
                          refine r_get dX9_pairs_90 fX9_60 rfl rfl ?_
                          refine r_iload dX9_pairs_93 rfl ?_
                          refine r_pc 95 rfl ?_
                          refine r_iald dX9_pairs_95 rfl rfl he8 (by decide) ?_
                          refine r_topi _ e3 ?_
                          refine r_cVv dX9_pairs_96 (m_goesTo hi8) lX9_172 rfl rfl rfl (by decide) ⟨Nat.le_refl _, Nat.le_refl _⟩ (Nat.le_of_ble_eq_true rfl) ?_
                          refine r_aload_n dX9_pairs_99 rfl ?_
                          refine r_iload dX9_pairs_100 rfl ?_
                          refine r_aload_n dX9_pairs_102 rfl ?_
                          refine r_pc 103 rfl ?_
                          refine r_get dX9_pairs_103 fX9_60 rfl rfl ?_
                          refine r_iload_n dX9_pairs_106 rfl ?_
                          refine r_iald dX9_pairs_107 rfl rfl hi8 (by decide) ?_
                          refine r_topi _ e1 ?_
                          refine r_cVv dX9_pairs_108 (m_goesTo he8) lX9_172 rfl rfl rfl (by decide) ⟨Nat.le_refl _, Nat.le_refl _⟩ (Nat.le_of_ble_eq_true rfl) ?_
                          refine r_iload_n dX9_pairs_111 rfl ?_
                          refine r_pc 112 rfl ?_
                          refine r_bipush (v := (nI 6)) dX9_pairs_112 (by decide) ?_
                          refine r_icmp_eqN 123 dX9_pairs_114 (by decide) (by omega) (by omega) (fun h114 => ?_) (fun h114 => ?_)
                          · refine r_pc 123 rfl ?_
                            refine r_aload_n dX9_pairs_123 rfl ?_
                            refine r_iload_n dX9_pairs_124 rfl ?_
                            refine r_iload_n dX9_pairs_125 rfl ?_
                            refine r_bipush (v := (nI 7)) dX9_pairs_126 (by decide) ?_
                            refine r_icmp_eqN 137 dX9_pairs_128 (by decide) (by omega) (by omega) (fun h128 => ?_) (fun h128 => ?_)
                            · exact absurd (h6.symm.trans h128) (by decide)
                            · refine r_pc 131 rfl ?_
                              refine r_iload_n dX9_pairs_131 rfl ?_
                              refine r_iconst (v := (nI 2)) dX9_pairs_132 (by decide) ?_
                              refine r_iremN dX9_pairs_133 (by omega) (by decide) (by decide) ?_
                              rw [q]
                              refine r_if_ne 141 dX9_pairs_134 (by decide) (fun h134 => ?_) (fun h134 => ?_)
                              · exact absurd rfl h134
                              · refine r_pc 137 rfl ?_
                                refine r_iconst (v := (nI 1)) dX9_pairs_137 (by decide) ?_
                                refine r_goto 142 dX9_pairs_138 (by decide) ?_
                                refine r_cVv dX9_pairs_142 (m_turns hi8 (by decide) hS) lX9_176 rfl rfl rfl (by decide) ⟨Nat.le_refl _, Nat.le_refl _⟩ (Nat.le_of_ble_eq_true rfl) ?_
                                refine r_aload_n dX9_pairs_145 rfl ?_
                                refine r_iload dX9_pairs_146 rfl ?_
                                refine r_pc 148 rfl ?_
                                refine r_iload_n dX9_pairs_148 rfl ?_
                                refine r_bipush (v := (nI 7)) dX9_pairs_149 (by decide) ?_
                                refine r_icmp_eqN 161 dX9_pairs_151 (by decide) (by omega) (by omega) (fun h151 => ?_) (fun h151 => ?_)
                                · exact absurd (h6.symm.trans h151) (by decide)
                                · refine r_pc 154 rfl ?_
                                  refine r_iload dX9_pairs_154 rfl ?_
                                  refine r_iconst (v := (nI 2)) dX9_pairs_156 (by decide) ?_
                                  refine r_iremN dX9_pairs_157 (by omega) (by decide) (by decide) ?_
                                  refine r_if_ne 165 dX9_pairs_158 (by decide) (fun h158 => ?_) (fun h158 => ?_)
                                  · refine r_pc 165 rfl ?_
                                    refine r_iconst (v := (nI 3)) dX9_pairs_165 (by decide) ?_
                                    refine r_cVv dX9_pairs_166 (m_turns he8 (by decide) hS) lX9_176 rfl rfl rfl (by decide) ⟨Nat.le_refl _, Nat.le_refl _⟩ (Nat.le_of_ble_eq_true rfl) ?_
                                    refine r_iload_n dX9_pairs_169 rfl ?_
                                    refine r_bipush (v := (nI 9)) dX9_pairs_170 (by decide) ?_
                                    refine r_icmp_neN 188 dX9_pairs_172 (by decide) (by omega) (by omega) (fun h172 => ?_) (fun h172 => ?_)
                                    · refine r_pc 188 rfl ?_
                                      refine r_inc1 (ls' := [_, _, _, _, _]) dX9_pairs_188 (by decide) rfl rfl ?_
                                      refine r_goto 2 dX9_pairs_191 (by decide) ?_
                                      refine r_pc 2 rfl ?_
                                      exact ih _
                                    · exact absurd (h6.symm.trans h172) (by decide)
                                  · exact absurd (nI_z (by omega) h158) q4
                          · exact absurd h6 h114
                        · exact absurd h74 h10
                      · exact absurd (nI_pos' (by omega)) h39
                    · exact absurd hm0 h22
              · have hq : chr i = 3 := by simp [chr, q]
                have q4 : e % 2 = 0 := by omega
                have hq2 : chr e = 1 := by simp [chr, q4]
                rw [hq, hq2] at ih
                refine r_iload_n dX9_pairs_2 rfl ?_
                refine r_bipush (v := (nI 8)) dX9_pairs_3 (by decide) ?_
                refine r_icmp_geN 194 dX9_pairs_5 (by decide) (by omega) (by omega) (fun h5 => ?_) (fun h5 => ?_)
                · exact absurd h5 (by omega)
                · refine r_pc 8 rfl ?_
                  refine r_iload_n dX9_pairs_8 rfl ?_
                  refine r_iload_n dX9_pairs_9 rfl ?_
                  refine r_cS dX9_pairs_10 (m_hasB _ p0 hi8) lX9_158 rfl rfl (by decide) ⟨Nat.le_refl _, Nat.le_refl _⟩ (Nat.le_of_ble_eq_true rfl) ?_
                  rw [hp0]
                  refine r_if_eq 188 dX9_pairs_13 (by decide) (fun h13 => ?_) (fun h13 => ?_)
                  · exact absurd h13 (by decide)
                  · refine r_pc 16 rfl ?_
                    refine r_aload_n dX9_pairs_16 rfl ?_
                    refine r_get dX9_pairs_17 fX9_76 rfl rfl ?_
                    refine r_iload_n dX9_pairs_20 rfl ?_
                    refine r_iald dX9_pairs_21 rfl rfl hi8 (by decide) ?_
                    refine r_if_lt 28 dX9_pairs_22 (by decide) (fun h22 => ?_) (fun h22 => ?_)
                    · refine r_pc 28 rfl ?_
                      refine r_aload_n dX9_pairs_28 rfl ?_
                      refine r_iload_n dX9_pairs_29 rfl ?_
                      refine r_iload_n dX9_pairs_30 rfl ?_
                      refine r_iload_n dX9_pairs_31 rfl ?_
                      refine r_cV dX9_pairs_32 (m_mateOf hi8 hg hg5 hS hs hF) lX9_179 rfl rfl rfl (by decide) ⟨Nat.le_refl _, Nat.le_refl _⟩ (Nat.le_of_ble_eq_true rfl) ?_
                      refine r_pc 35 rfl ?_
                      rw [hm]
                      refine r_istore (ls' := [_, _, _, _, _]) dX9_pairs_35 (by decide) rfl ?_
                      refine r_iload dX9_pairs_37 rfl ?_
                      refine r_if_ge 45 dX9_pairs_39 (by decide) (fun h39 => ?_) (fun h39 => ?_)
                      · refine r_pc 45 rfl ?_
                        refine r_aload_n dX9_pairs_45 rfl ?_
                        refine r_get dX9_pairs_46 fX9_76 rfl rfl ?_
                        refine r_iload_n dX9_pairs_49 rfl ?_
                        refine r_iload dX9_pairs_50 rfl ?_
                        refine r_iast (w2 := (_, mW _ _ _ _ _ _ _ _ _ _ _ _ _ _ _ _ _ _ _ _ _ _ _ _ _ _ _ _ _ _ _ _ _)) dX9_pairs_52 rfl rfl hi8 (by decide) rfl ?_
                        refine r_pc 53 rfl ?_
                        refine r_aload_n dX9_pairs_53 rfl ?_
                        refine r_get dX9_pairs_54 fX9_76 rfl rfl ?_
                        refine r_iload dX9_pairs_57 rfl ?_
                        refine r_iload_n dX9_pairs_59 rfl ?_
                        refine r_iast (w2 := (_, mW _ _ _ _ _ _ _ _ _ _ _ _ _ _ _ _ _ _ _ _ _ _ _ _ _ _ _ _ _ _ _ _ _)) dX9_pairs_60 rfl rfl he8 (by decide) rfl ?_
                        refine r_pc 61 rfl ?_
                        refine r_aload_n dX9_pairs_61 rfl ?_
                        refine r_dup dX9_pairs_62 rfl ?_
                        refine r_get dX9_pairs_63 fX9_183 rfl rfl ?_
                        refine r_iconst (v := (nI 1)) dX9_pairs_66 (by decide) ?_
                        refine r_iaddN dX9_pairs_67 ?_
                        refine r_pc 68 rfl ?_
                        refine r_put (w2 := (_, mW _ _ _ _ _ _ _ _ _ _ _ _ _ _ _ _ _ _ _ _ _ _ _ _ _ _ _ _ _ _ _ _ _)) dX9_pairs_68 fX9_183 rfl rfl (Nat.le_of_ble_eq_true rfl) (fun _ => rfl) (fun _ => rfl) rfl ?_
                        refine r_iload_n dX9_pairs_71 rfl ?_
                        refine r_bipush (v := (nI 10)) dX9_pairs_72 (by decide) ?_
                        refine r_icmp_neN 87 dX9_pairs_74 (by decide) (by omega) (by omega) (fun h74 => ?_) (fun h74 => ?_)
                        · refine r_pc 87 rfl ?_
                          refine r_aload_n dX9_pairs_87 rfl ?_
                          refine r_iload_n dX9_pairs_88 rfl ?_
                          refine r_aload_n dX9_pairs_89 rfl ?_
                          refine r_get dX9_pairs_90 fX9_60 rfl rfl ?_
                          refine r_iload dX9_pairs_93 rfl ?_
                          refine r_pc 95 rfl ?_
                          refine r_iald dX9_pairs_95 rfl rfl he8 (by decide) ?_
                          refine r_topi _ e3 ?_
                          refine r_cVv dX9_pairs_96 (m_goesTo hi8) lX9_172 rfl rfl rfl (by decide) ⟨Nat.le_refl _, Nat.le_refl _⟩ (Nat.le_of_ble_eq_true rfl) ?_
                          refine r_aload_n dX9_pairs_99 rfl ?_
                          refine r_iload dX9_pairs_100 rfl ?_
                          refine r_aload_n dX9_pairs_102 rfl ?_
                          refine r_pc 103 rfl ?_
                          refine r_get dX9_pairs_103 fX9_60 rfl rfl ?_
                          refine r_iload_n dX9_pairs_106 rfl ?_
                          refine r_iald dX9_pairs_107 rfl rfl hi8 (by decide) ?_
                          refine r_topi _ e1 ?_
                          refine r_cVv dX9_pairs_108 (m_goesTo he8) lX9_172 rfl rfl rfl (by decide) ⟨Nat.le_refl _, Nat.le_refl _⟩ (Nat.le_of_ble_eq_true rfl) ?_
                          refine r_iload_n dX9_pairs_111 rfl ?_
                          refine r_pc 112 rfl ?_
                          refine r_bipush (v := (nI 6)) dX9_pairs_112 (by decide) ?_
                          refine r_icmp_eqN 123 dX9_pairs_114 (by decide) (by omega) (by omega) (fun h114 => ?_) (fun h114 => ?_)
                          · refine r_pc 123 rfl ?_
                            refine r_aload_n dX9_pairs_123 rfl ?_
                            refine r_iload_n dX9_pairs_124 rfl ?_
                            refine r_iload_n dX9_pairs_125 rfl ?_
                            refine r_bipush (v := (nI 7)) dX9_pairs_126 (by decide) ?_
                            refine r_icmp_eqN 137 dX9_pairs_128 (by decide) (by omega) (by omega) (fun h128 => ?_) (fun h128 => ?_)
                            · exact absurd (h6.symm.trans h128) (by decide)
                            · refine r_pc 131 rfl ?_
                              refine r_iload_n dX9_pairs_131 rfl ?_
                              refine r_iconst (v := (nI 2)) dX9_pairs_132 (by decide) ?_
                              refine r_iremN dX9_pairs_133 (by omega) (by decide) (by decide) ?_
                              refine r_if_ne 141 dX9_pairs_134 (by decide) (fun h134 => ?_) (fun h134 => ?_)
                              · refine r_pc 141 rfl ?_
                                refine r_iconst (v := (nI 3)) dX9_pairs_141 (by decide) ?_
                                refine r_cVv dX9_pairs_142 (m_turns hi8 (by decide) hS) lX9_176 rfl rfl rfl (by decide) ⟨Nat.le_refl _, Nat.le_refl _⟩ (Nat.le_of_ble_eq_true rfl) ?_
                                refine r_aload_n dX9_pairs_145 rfl ?_
                                refine r_iload dX9_pairs_146 rfl ?_
                                refine r_iload_n dX9_pairs_148 rfl ?_
                                refine r_pc 149 rfl ?_
                                refine r_bipush (v := (nI 7)) dX9_pairs_149 (by decide) ?_
                                refine r_icmp_eqN 161 dX9_pairs_151 (by decide) (by omega) (by omega) (fun h151 => ?_) (fun h151 => ?_)
                                · exact absurd (h6.symm.trans h151) (by decide)
                                · refine r_pc 154 rfl ?_
                                  refine r_iload dX9_pairs_154 rfl ?_
                                  refine r_iconst (v := (nI 2)) dX9_pairs_156 (by decide) ?_
                                  refine r_iremN dX9_pairs_157 (by omega) (by decide) (by decide) ?_
                                  rw [q4]
                                  refine r_if_ne 165 dX9_pairs_158 (by decide) (fun h158 => ?_) (fun h158 => ?_)
                                  · exact absurd rfl h158
                                  · refine r_pc 161 rfl ?_
                                    refine r_iconst (v := (nI 1)) dX9_pairs_161 (by decide) ?_
                                    refine r_goto 166 dX9_pairs_162 (by decide) ?_
                                    refine r_cVv dX9_pairs_166 (m_turns he8 (by decide) hS) lX9_176 rfl rfl rfl (by decide) ⟨Nat.le_refl _, Nat.le_refl _⟩ (Nat.le_of_ble_eq_true rfl) ?_
                                    refine r_iload_n dX9_pairs_169 rfl ?_
                                    refine r_bipush (v := (nI 9)) dX9_pairs_170 (by decide) ?_
                                    refine r_pc 172 rfl ?_
                                    refine r_icmp_neN 188 dX9_pairs_172 (by decide) (by omega) (by omega) (fun h172 => ?_) (fun h172 => ?_)
                                    · refine r_pc 188 rfl ?_
                                      refine r_inc1 (ls' := [_, _, _, _, _]) dX9_pairs_188 (by decide) rfl rfl ?_
                                      refine r_goto 2 dX9_pairs_191 (by decide) ?_
                                      refine r_pc 2 rfl ?_
                                      exact ih _
                                    · exact absurd (h6.symm.trans h172) (by decide)
                              · exact absurd (nI_z (by omega) h134) q
                          · exact absurd h6 h114
                        · exact absurd h74 h10
                      · exact absurd (nI_pos' (by omega)) h39
                    · exact absurd hm0 h22
            · by_cases h7 : g = 7
              · have hc : ∀ fu, chU f fu g i e = upd (upd fu i (nI ((f i + 1) % 4))) e (nI ((f e + 1) % 4)) := fun fu => by simp [chU, h7]
                rw [hc] at ih
                refine r_iload_n dX9_pairs_2 rfl ?_
                refine r_bipush (v := (nI 8)) dX9_pairs_3 (by decide) ?_
                refine r_icmp_geN 194 dX9_pairs_5 (by decide) (by omega) (by omega) (fun h5 => ?_) (fun h5 => ?_)
                · exact absurd h5 (by omega)
                · refine r_pc 8 rfl ?_
                  refine r_iload_n dX9_pairs_8 rfl ?_
                  refine r_iload_n dX9_pairs_9 rfl ?_
                  refine r_cS dX9_pairs_10 (m_hasB _ p0 hi8) lX9_158 rfl rfl (by decide) ⟨Nat.le_refl _, Nat.le_refl _⟩ (Nat.le_of_ble_eq_true rfl) ?_
                  rw [hp0]
                  refine r_if_eq 188 dX9_pairs_13 (by decide) (fun h13 => ?_) (fun h13 => ?_)
                  · exact absurd h13 (by decide)
                  · refine r_pc 16 rfl ?_
                    refine r_aload_n dX9_pairs_16 rfl ?_
                    refine r_get dX9_pairs_17 fX9_76 rfl rfl ?_
                    refine r_iload_n dX9_pairs_20 rfl ?_
                    refine r_iald dX9_pairs_21 rfl rfl hi8 (by decide) ?_
                    refine r_if_lt 28 dX9_pairs_22 (by decide) (fun h22 => ?_) (fun h22 => ?_)
                    · refine r_pc 28 rfl ?_
                      refine r_aload_n dX9_pairs_28 rfl ?_
                      refine r_iload_n dX9_pairs_29 rfl ?_
                      refine r_iload_n dX9_pairs_30 rfl ?_
                      refine r_iload_n dX9_pairs_31 rfl ?_
                      refine r_cV dX9_pairs_32 (m_mateOf hi8 hg hg5 hS hs hF) lX9_179 rfl rfl rfl (by decide) ⟨Nat.le_refl _, Nat.le_refl _⟩ (Nat.le_of_ble_eq_true rfl) ?_
                      refine r_pc 35 rfl ?_
                      rw [hm]
                      refine r_istore (ls' := [_, _, _, _, _]) dX9_pairs_35 (by decide) rfl ?_
                      refine r_iload dX9_pairs_37 rfl ?_
                      refine r_if_ge 45 dX9_pairs_39 (by decide) (fun h39 => ?_) (fun h39 => ?_)
                      · refine r_pc 45 rfl ?_
                        refine r_aload_n dX9_pairs_45 rfl ?_
                        refine r_get dX9_pairs_46 fX9_76 rfl rfl ?_
                        refine r_iload_n dX9_pairs_49 rfl ?_
                        refine r_iload dX9_pairs_50 rfl ?_
                        refine r_iast (w2 := (_, mW _ _ _ _ _ _ _ _ _ _ _ _ _ _ _ _ _ _ _ _ _ _ _ _ _ _ _ _ _ _ _ _ _)) dX9_pairs_52 rfl rfl hi8 (by decide) rfl ?_
                        refine r_pc 53 rfl ?_
                        refine r_aload_n dX9_pairs_53 rfl ?_
                        refine r_get dX9_pairs_54 fX9_76 rfl rfl ?_
                        refine r_iload dX9_pairs_57 rfl ?_
                        refine r_iload_n dX9_pairs_59 rfl ?_
                        refine r_iast (w2 := (_, mW _ _ _ _ _ _ _ _ _ _ _ _ _ _ _ _ _ _ _ _ _ _ _ _ _ _ _ _ _ _ _ _ _)) dX9_pairs_60 rfl rfl he8 (by decide) rfl ?_
                        refine r_pc 61 rfl ?_
                        refine r_aload_n dX9_pairs_61 rfl ?_
                        refine r_dup dX9_pairs_62 rfl ?_
                        refine r_get dX9_pairs_63 fX9_183 rfl rfl ?_
                        refine r_iconst (v := (nI 1)) dX9_pairs_66 (by decide) ?_
                        refine r_iaddN dX9_pairs_67 ?_
                        refine r_pc 68 rfl ?_
                        refine r_put (w2 := (_, mW _ _ _ _ _ _ _ _ _ _ _ _ _ _ _ _ _ _ _ _ _ _ _ _ _ _ _ _ _ _ _ _ _)) dX9_pairs_68 fX9_183 rfl rfl (Nat.le_of_ble_eq_true rfl) (fun _ => rfl) (fun _ => rfl) rfl ?_
                        refine r_iload_n dX9_pairs_71 rfl ?_
                        refine r_bipush (v := (nI 10)) dX9_pairs_72 (by decide) ?_
                        refine r_icmp_neN 87 dX9_pairs_74 (by decide) (by omega) (by omega) (fun h74 => ?_) (fun h74 => ?_)
                        · refine r_pc 87 rfl ?_
                          refine r_aload_n dX9_pairs_87 rfl ?_
                          refine r_iload_n dX9_pairs_88 rfl ?_
                          refine r_aload_n dX9_pairs_89 rfl ?_
                          refine r_get dX9_pairs_90 fX9_60 rfl rfl ?_
                          refine r_iload dX9_pairs_93 rfl ?_
                          refine r_pc 95 rfl ?_
                          refine r_iald dX9_pairs_95 rfl rfl he8 (by decide) ?_
                          refine r_topi _ e3 ?_
                          refine r_cVv dX9_pairs_96 (m_goesTo hi8) lX9_172 rfl rfl rfl (by decide) ⟨Nat.le_refl _, Nat.le_refl _⟩ (Nat.le_of_ble_eq_true rfl) ?_
                          refine r_aload_n dX9_pairs_99 rfl ?_
                          refine r_iload dX9_pairs_100 rfl ?_
                          refine r_aload_n dX9_pairs_102 rfl ?_
                          refine r_pc 103 rfl ?_
                          refine r_get dX9_pairs_103 fX9_60 rfl rfl ?_
                          refine r_iload_n dX9_pairs_106 rfl ?_
                          refine r_iald dX9_pairs_107 rfl rfl hi8 (by decide) ?_
                          refine r_topi _ e1 ?_
                          refine r_cVv dX9_pairs_108 (m_goesTo he8) lX9_172 rfl rfl rfl (by decide) ⟨Nat.le_refl _, Nat.le_refl _⟩ (Nat.le_of_ble_eq_true rfl) ?_
                          refine r_iload_n dX9_pairs_111 rfl ?_
                          refine r_pc 112 rfl ?_
                          refine r_bipush (v := (nI 6)) dX9_pairs_112 (by decide) ?_
                          refine r_icmp_eqN 123 dX9_pairs_114 (by decide) (by omega) (by omega) (fun h114 => ?_) (fun h114 => ?_)
                          · exact absurd h114 h6
                          · refine r_pc 117 rfl ?_
                            refine r_iload_n dX9_pairs_117 rfl ?_
                            refine r_bipush (v := (nI 7)) dX9_pairs_118 (by decide) ?_
                            refine r_icmp_neN 169 dX9_pairs_120 (by decide) (by omega) (by omega) (fun h120 => ?_) (fun h120 => ?_)
                            · exact absurd h7 h120
                            · refine r_pc 123 rfl ?_
                              refine r_aload_n dX9_pairs_123 rfl ?_
                              refine r_iload_n dX9_pairs_124 rfl ?_
                              refine r_iload_n dX9_pairs_125 rfl ?_
                              refine r_bipush (v := (nI 7)) dX9_pairs_126 (by decide) ?_
                              refine r_icmp_eqN 137 dX9_pairs_128 (by decide) (by omega) (by omega) (fun h128 => ?_) (fun h128 => ?_)
                              · refine r_pc 137 rfl ?_
                                refine r_iconst (v := (nI 1)) dX9_pairs_137 (by decide) ?_
                                refine r_goto 142 dX9_pairs_138 (by decide) ?_
                                refine r_cVv dX9_pairs_142 (m_turns hi8 (by decide) hS) lX9_176 rfl rfl rfl (by decide) ⟨Nat.le_refl _, Nat.le_refl _⟩ (Nat.le_of_ble_eq_true rfl) ?_
                                refine r_aload_n dX9_pairs_145 rfl ?_
                                refine r_iload dX9_pairs_146 rfl ?_
                                refine r_pc 148 rfl ?_
                                refine r_iload_n dX9_pairs_148 rfl ?_
                                refine r_bipush (v := (nI 7)) dX9_pairs_149 (by decide) ?_
                                refine r_icmp_eqN 161 dX9_pairs_151 (by decide) (by omega) (by omega) (fun h151 => ?_) (fun h151 => ?_)
                                · refine r_pc 161 rfl ?_
                                  refine r_iconst (v := (nI 1)) dX9_pairs_161 (by decide) ?_
                                  refine r_goto 166 dX9_pairs_162 (by decide) ?_
                                  refine r_cVv dX9_pairs_166 (m_turns he8 (by decide) hS) lX9_176 rfl rfl rfl (by decide) ⟨Nat.le_refl _, Nat.le_refl _⟩ (Nat.le_of_ble_eq_true rfl) ?_
                                  refine r_iload_n dX9_pairs_169 rfl ?_
                                  refine r_bipush (v := (nI 9)) dX9_pairs_170 (by decide) ?_
                                  refine r_pc 172 rfl ?_
                                  refine r_icmp_neN 188 dX9_pairs_172 (by decide) (by omega) (by omega) (fun h172 => ?_) (fun h172 => ?_)
                                  · refine r_pc 188 rfl ?_
                                    refine r_inc1 (ls' := [_, _, _, _, _]) dX9_pairs_188 (by decide) rfl rfl ?_
                                    refine r_goto 2 dX9_pairs_191 (by decide) ?_
                                    refine r_pc 2 rfl ?_
                                    exact ih _
                                  · exact absurd (h7.symm.trans h172) (by decide)
                                · exact absurd h7 h151
                              · exact absurd h7 h128
                        · exact absurd h74 h10
                      · exact absurd (nI_pos' (by omega)) h39
                    · exact absurd hm0 h22
              · by_cases h9 : g = 9
                · have hc : ∀ fu, chU f fu g i e = upd (upd fu i (nI ((f i + 2) % 4))) e (nI ((f e + 2) % 4)) := fun fu => by simp [chU, h9]
                  rw [hc] at ih
                  refine r_iload_n dX9_pairs_2 rfl ?_
                  refine r_bipush (v := (nI 8)) dX9_pairs_3 (by decide) ?_
                  refine r_icmp_geN 194 dX9_pairs_5 (by decide) (by omega) (by omega) (fun h5 => ?_) (fun h5 => ?_)
                  · exact absurd h5 (by omega)
                  · refine r_pc 8 rfl ?_
                    refine r_iload_n dX9_pairs_8 rfl ?_
                    refine r_iload_n dX9_pairs_9 rfl ?_
                    refine r_cS dX9_pairs_10 (m_hasB _ p0 hi8) lX9_158 rfl rfl (by decide) ⟨Nat.le_refl _, Nat.le_refl _⟩ (Nat.le_of_ble_eq_true rfl) ?_
                    rw [hp0]
                    refine r_if_eq 188 dX9_pairs_13 (by decide) (fun h13 => ?_) (fun h13 => ?_)
                    · exact absurd h13 (by decide)
                    · refine r_pc 16 rfl ?_
                      refine r_aload_n dX9_pairs_16 rfl ?_
                      refine r_get dX9_pairs_17 fX9_76 rfl rfl ?_
                      refine r_iload_n dX9_pairs_20 rfl ?_
                      refine r_iald dX9_pairs_21 rfl rfl hi8 (by decide) ?_
                      refine r_if_lt 28 dX9_pairs_22 (by decide) (fun h22 => ?_) (fun h22 => ?_)
                      · refine r_pc 28 rfl ?_
                        refine r_aload_n dX9_pairs_28 rfl ?_
                        refine r_iload_n dX9_pairs_29 rfl ?_
                        refine r_iload_n dX9_pairs_30 rfl ?_
                        refine r_iload_n dX9_pairs_31 rfl ?_
                        refine r_cV dX9_pairs_32 (m_mateOf hi8 hg hg5 hS hs hF) lX9_179 rfl rfl rfl (by decide) ⟨Nat.le_refl _, Nat.le_refl _⟩ (Nat.le_of_ble_eq_true rfl) ?_
                        refine r_pc 35 rfl ?_
                        rw [hm]
                        refine r_istore (ls' := [_, _, _, _, _]) dX9_pairs_35 (by decide) rfl ?_
                        refine r_iload dX9_pairs_37 rfl ?_
                        refine r_if_ge 45 dX9_pairs_39 (by decide) (fun h39 => ?_) (fun h39 => ?_)
                        · refine r_pc 45 rfl ?_
                          refine r_aload_n dX9_pairs_45 rfl ?_
                          refine r_get dX9_pairs_46 fX9_76 rfl rfl ?_
                          refine r_iload_n dX9_pairs_49 rfl ?_
                          refine r_iload dX9_pairs_50 rfl ?_
                          refine r_iast (w2 := (_, mW _ _ _ _ _ _ _ _ _ _ _ _ _ _ _ _ _ _ _ _ _ _ _ _ _ _ _ _ _ _ _ _ _)) dX9_pairs_52 rfl rfl hi8 (by decide) rfl ?_
                          refine r_pc 53 rfl ?_
                          refine r_aload_n dX9_pairs_53 rfl ?_
                          refine r_get dX9_pairs_54 fX9_76 rfl rfl ?_
                          refine r_iload dX9_pairs_57 rfl ?_
                          refine r_iload_n dX9_pairs_59 rfl ?_
                          refine r_iast (w2 := (_, mW _ _ _ _ _ _ _ _ _ _ _ _ _ _ _ _ _ _ _ _ _ _ _ _ _ _ _ _ _ _ _ _ _)) dX9_pairs_60 rfl rfl he8 (by decide) rfl ?_
                          refine r_pc 61 rfl ?_
                          refine r_aload_n dX9_pairs_61 rfl ?_
                          refine r_dup dX9_pairs_62 rfl ?_
                          refine r_get dX9_pairs_63 fX9_183 rfl rfl ?_
                          refine r_iconst (v := (nI 1)) dX9_pairs_66 (by decide) ?_
                          refine r_iaddN dX9_pairs_67 ?_
                          refine r_pc 68 rfl ?_
                          refine r_put (w2 := (_, mW _ _ _ _ _ _ _ _ _ _ _ _ _ _ _ _ _ _ _ _ _ _ _ _ _ _ _ _ _ _ _ _ _)) dX9_pairs_68 fX9_183 rfl rfl (Nat.le_of_ble_eq_true rfl) (fun _ => rfl) (fun _ => rfl) rfl ?_
                          refine r_iload_n dX9_pairs_71 rfl ?_
                          refine r_bipush (v := (nI 10)) dX9_pairs_72 (by decide) ?_
                          refine r_icmp_neN 87 dX9_pairs_74 (by decide) (by omega) (by omega) (fun h74 => ?_) (fun h74 => ?_)
                          · refine r_pc 87 rfl ?_
                            refine r_aload_n dX9_pairs_87 rfl ?_
                            refine r_iload_n dX9_pairs_88 rfl ?_
                            refine r_aload_n dX9_pairs_89 rfl ?_
                            refine r_get dX9_pairs_90 fX9_60 rfl rfl ?_
                            refine r_iload dX9_pairs_93 rfl ?_
                            refine r_pc 95 rfl ?_
                            refine r_iald dX9_pairs_95 rfl rfl he8 (by decide) ?_
                            refine r_topi _ e3 ?_
                            refine r_cVv dX9_pairs_96 (m_goesTo hi8) lX9_172 rfl rfl rfl (by decide) ⟨Nat.le_refl _, Nat.le_refl _⟩ (Nat.le_of_ble_eq_true rfl) ?_
                            refine r_aload_n dX9_pairs_99 rfl ?_
                            refine r_iload dX9_pairs_100 rfl ?_
                            refine r_aload_n dX9_pairs_102 rfl ?_
                            refine r_pc 103 rfl ?_
                            refine r_get dX9_pairs_103 fX9_60 rfl rfl ?_
                            refine r_iload_n dX9_pairs_106 rfl ?_
                            refine r_iald dX9_pairs_107 rfl rfl hi8 (by decide) ?_
                            refine r_topi _ e1 ?_
                            refine r_cVv dX9_pairs_108 (m_goesTo he8) lX9_172 rfl rfl rfl (by decide) ⟨Nat.le_refl _, Nat.le_refl _⟩ (Nat.le_of_ble_eq_true rfl) ?_
                            refine r_iload_n dX9_pairs_111 rfl ?_
                            refine r_pc 112 rfl ?_
                            refine r_bipush (v := (nI 6)) dX9_pairs_112 (by decide) ?_
                            refine r_icmp_eqN 123 dX9_pairs_114 (by decide) (by omega) (by omega) (fun h114 => ?_) (fun h114 => ?_)
                            · exact absurd h114 h6
                            · refine r_pc 117 rfl ?_
                              refine r_iload_n dX9_pairs_117 rfl ?_
                              refine r_bipush (v := (nI 7)) dX9_pairs_118 (by decide) ?_
                              refine r_icmp_neN 169 dX9_pairs_120 (by decide) (by omega) (by omega) (fun h120 => ?_) (fun h120 => ?_)
                              · refine r_pc 169 rfl ?_
                                refine r_iload_n dX9_pairs_169 rfl ?_
                                refine r_bipush (v := (nI 9)) dX9_pairs_170 (by decide) ?_
                                refine r_icmp_neN 188 dX9_pairs_172 (by decide) (by omega) (by omega) (fun h172 => ?_) (fun h172 => ?_)
                                · exact absurd h9 h172
                                · refine r_pc 175 rfl ?_
                                  refine r_aload_n dX9_pairs_175 rfl ?_
                                  refine r_iload_n dX9_pairs_176 rfl ?_
                                  refine r_iconst (v := (nI 2)) dX9_pairs_177 (by decide) ?_
                                  refine r_cVv dX9_pairs_178 (m_turns hi8 (by decide) hS) lX9_176 rfl rfl rfl (by decide) ⟨Nat.le_refl _, Nat.le_refl _⟩ (Nat.le_of_ble_eq_true rfl) ?_
                                  refine r_aload_n dX9_pairs_181 rfl ?_
                                  refine r_pc 182 rfl ?_
                                  refine r_iload dX9_pairs_182 rfl ?_
                                  refine r_iconst (v := (nI 2)) dX9_pairs_184 (by decide) ?_
                                  refine r_cVv dX9_pairs_185 (m_turns he8 (by decide) hS) lX9_176 rfl rfl rfl (by decide) ⟨Nat.le_refl _, Nat.le_refl _⟩ (Nat.le_of_ble_eq_true rfl) ?_
                                  refine r_inc1 (ls' := [_, _, _, _, _]) dX9_pairs_188 (by decide) rfl rfl ?_
                                  refine r_goto 2 dX9_pairs_191 (by decide) ?_
                                  refine r_pc 2 rfl ?_
                                  exact ih _
                              · exact absurd h120 h7
                          · exact absurd h74 h10
                        · exact absurd (nI_pos' (by omega)) h39
                      · exact absurd hm0 h22
                · have hc : ∀ fu, chU f fu g i e = fu := fun fu => by simp [chU, h6, h7, h9]
                  rw [hc] at ih
                  refine r_iload_n dX9_pairs_2 rfl ?_
                  refine r_bipush (v := (nI 8)) dX9_pairs_3 (by decide) ?_
                  refine r_icmp_geN 194 dX9_pairs_5 (by decide) (by omega) (by omega) (fun h5 => ?_) (fun h5 => ?_)
                  · exact absurd h5 (by omega)
                  · refine r_pc 8 rfl ?_
                    refine r_iload_n dX9_pairs_8 rfl ?_
                    refine r_iload_n dX9_pairs_9 rfl ?_
                    refine r_cS dX9_pairs_10 (m_hasB _ p0 hi8) lX9_158 rfl rfl (by decide) ⟨Nat.le_refl _, Nat.le_refl _⟩ (Nat.le_of_ble_eq_true rfl) ?_
                    rw [hp0]
                    refine r_if_eq 188 dX9_pairs_13 (by decide) (fun h13 => ?_) (fun h13 => ?_)
                    · exact absurd h13 (by decide)
                    · refine r_pc 16 rfl ?_
                      refine r_aload_n dX9_pairs_16 rfl ?_
                      refine r_get dX9_pairs_17 fX9_76 rfl rfl ?_
                      refine r_iload_n dX9_pairs_20 rfl ?_
                      refine r_iald dX9_pairs_21 rfl rfl hi8 (by decide) ?_
                      refine r_if_lt 28 dX9_pairs_22 (by decide) (fun h22 => ?_) (fun h22 => ?_)
                      · refine r_pc 28 rfl ?_
                        refine r_aload_n dX9_pairs_28 rfl ?_
                        refine r_iload_n dX9_pairs_29 rfl ?_
                        refine r_iload_n dX9_pairs_30 rfl ?_
                        refine r_iload_n dX9_pairs_31 rfl ?_
                        refine r_cV dX9_pairs_32 (m_mateOf hi8 hg hg5 hS hs hF) lX9_179 rfl rfl rfl (by decide) ⟨Nat.le_refl _, Nat.le_refl _⟩ (Nat.le_of_ble_eq_true rfl) ?_
                        refine r_pc 35 rfl ?_
                        rw [hm]
                        refine r_istore (ls' := [_, _, _, _, _]) dX9_pairs_35 (by decide) rfl ?_
                        refine r_iload dX9_pairs_37 rfl ?_
                        refine r_if_ge 45 dX9_pairs_39 (by decide) (fun h39 => ?_) (fun h39 => ?_)
                        · refine r_pc 45 rfl ?_
                          refine r_aload_n dX9_pairs_45 rfl ?_
                          refine r_get dX9_pairs_46 fX9_76 rfl rfl ?_
                          refine r_iload_n dX9_pairs_49 rfl ?_
                          refine r_iload dX9_pairs_50 rfl ?_
                          refine r_iast (w2 := (_, mW _ _ _ _ _ _ _ _ _ _ _ _ _ _ _ _ _ _ _ _ _ _ _ _ _ _ _ _ _ _ _ _ _)) dX9_pairs_52 rfl rfl hi8 (by decide) rfl ?_
                          refine r_pc 53 rfl ?_
                          refine r_aload_n dX9_pairs_53 rfl ?_
                          refine r_get dX9_pairs_54 fX9_76 rfl rfl ?_
                          refine r_iload dX9_pairs_57 rfl ?_
                          refine r_iload_n dX9_pairs_59 rfl ?_
                          refine r_iast (w2 := (_, mW _ _ _ _ _ _ _ _ _ _ _ _ _ _ _ _ _ _ _ _ _ _ _ _ _ _ _ _ _ _ _ _ _)) dX9_pairs_60 rfl rfl he8 (by decide) rfl ?_
                          refine r_pc 61 rfl ?_
                          refine r_aload_n dX9_pairs_61 rfl ?_
                          refine r_dup dX9_pairs_62 rfl ?_
                          refine r_get dX9_pairs_63 fX9_183 rfl rfl ?_
                          refine r_iconst (v := (nI 1)) dX9_pairs_66 (by decide) ?_
                          refine r_iaddN dX9_pairs_67 ?_
                          refine r_pc 68 rfl ?_
                          refine r_put (w2 := (_, mW _ _ _ _ _ _ _ _ _ _ _ _ _ _ _ _ _ _ _ _ _ _ _ _ _ _ _ _ _ _ _ _ _)) dX9_pairs_68 fX9_183 rfl rfl (Nat.le_of_ble_eq_true rfl) (fun _ => rfl) (fun _ => rfl) rfl ?_
                          refine r_iload_n dX9_pairs_71 rfl ?_
                          refine r_bipush (v := (nI 10)) dX9_pairs_72 (by decide) ?_
                          refine r_icmp_neN 87 dX9_pairs_74 (by decide) (by omega) (by omega) (fun h74 => ?_) (fun h74 => ?_)
                          · refine r_pc 87 rfl ?_
                            refine r_aload_n dX9_pairs_87 rfl ?_
                            refine r_iload_n dX9_pairs_88 rfl ?_
                            refine r_aload_n dX9_pairs_89 rfl ?_
                            refine r_get dX9_pairs_90 fX9_60 rfl rfl ?_
                            refine r_iload dX9_pairs_93 rfl ?_
                            refine r_pc 95 rfl ?_
                            refine r_iald dX9_pairs_95 rfl rfl he8 (by decide) ?_
                            refine r_topi _ e3 ?_
                            refine r_cVv dX9_pairs_96 (m_goesTo hi8) lX9_172 rfl rfl rfl (by decide) ⟨Nat.le_refl _, Nat.le_refl _⟩ (Nat.le_of_ble_eq_true rfl) ?_
                            refine r_aload_n dX9_pairs_99 rfl ?_
                            refine r_iload dX9_pairs_100 rfl ?_
                            refine r_aload_n dX9_pairs_102 rfl ?_
                            refine r_pc 103 rfl ?_
                            refine r_get dX9_pairs_103 fX9_60 rfl rfl ?_
                            refine r_iload_n dX9_pairs_106 rfl ?_
                            refine r_iald dX9_pairs_107 rfl rfl hi8 (by decide) ?_
                            refine r_topi _ e1 ?_
                            refine r_cVv dX9_pairs_108 (m_goesTo he8) lX9_172 rfl rfl rfl (by decide) ⟨Nat.le_refl _, Nat.le_refl _⟩ (Nat.le_of_ble_eq_true rfl) ?_
                            refine r_iload_n dX9_pairs_111 rfl ?_
                            refine r_pc 112 rfl ?_
                            refine r_bipush (v := (nI 6)) dX9_pairs_112 (by decide) ?_
                            refine r_icmp_eqN 123 dX9_pairs_114 (by decide) (by omega) (by omega) (fun h114 => ?_) (fun h114 => ?_)
                            · exact absurd h114 h6
                            · refine r_pc 117 rfl ?_
                              refine r_iload_n dX9_pairs_117 rfl ?_
                              refine r_bipush (v := (nI 7)) dX9_pairs_118 (by decide) ?_
                              refine r_icmp_neN 169 dX9_pairs_120 (by decide) (by omega) (by omega) (fun h120 => ?_) (fun h120 => ?_)
                              · refine r_pc 169 rfl ?_
                                refine r_iload_n dX9_pairs_169 rfl ?_
                                refine r_bipush (v := (nI 9)) dX9_pairs_170 (by decide) ?_
                                refine r_icmp_neN 188 dX9_pairs_172 (by decide) (by omega) (by omega) (fun h172 => ?_) (fun h172 => ?_)
                                · refine r_pc 188 rfl ?_
                                  refine r_inc1 (ls' := [_, _, _, _, _]) dX9_pairs_188 (by decide) rfl rfl ?_
                                  refine r_goto 2 dX9_pairs_191 (by decide) ?_
                                  refine r_pc 2 rfl ?_
                                  exact ih _
                                · exact absurd h172 h9
                              · exact absurd h120 h7
                          · exact absurd h74 h10
                        · exact absurd (nI_pos' (by omega)) h39
                      · exact absurd hm0 h22
  subst hw0
  refine r_iconst (v := (nI 0)) dX9_pairs_0 (by decide) ?_
  refine r_istore_n (ls' := [_, _, _, _, _]) dX9_pairs_1 (by decide) rfl ?_
  refine r_pc 2 rfl ?_
  exact L 8 0 _ (by omega)
end R4
