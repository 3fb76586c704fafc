/-! ===== the reference: a call tried ===== -/
def gE (p : Nat → Bool) (g : Nat) (j : Nat) : Bool := p j && decide (g ≤ 1)
theorem nb_ne {c f : Nat} (hc : c < 16) (hf : f < 4) : ¬ nb c f = some c := by
  intro h
  have h2 := nb_ne0 c hc f hf
  rw [h] at h2
  simp at h2
theorem gE_eq {c f : Nat → Nat} {p : Nat → Bool} {g : Nat} (hv : Val c f) {j : Nat} (hj : j < 8) : gE p g j = goesB c (eT c f p g) j := by
  obtain ⟨h1, h2⟩ := hv j hj
  unfold gE goesB eT
  cases hp : p j with
  | false => simp
  | true =>
    dsimp only
    match g with
    | 0 => simp [nb_ne h1 h2]
    | 1 => simp [nb_ne h1 (Nat.mod_lt (f j + 2) (by decide : 0 < 4))]
    | n + 2 => simp
theorem nb_fr0 : ∀ c, c < 16 → ∀ f, f < 4 → (nb c ((f + 1) % 4)).all (fun x => !decide (nb c f = some x)) = true := by decide +kernel
theorem nb_fr1 : ∀ c, c < 16 → ∀ f, f < 4 → (nb c ((f + 3) % 4)).all (fun x => !decide (nb x f = some c)) = true := by decide +kernel
theorem bes_at {c f : Nat → Nat} {d r e : Nat} (h : bes c f d r = some e) : nb (c d) ((f d + r) % 4) = some (c e) := by
  unfold bes at h
  split at h
  · cases h
  · rename_i x hn
    rw [hn, who_some h]
theorem fold_goes {c f : Nat → Nat} {p : Nat → Bool} {d e : Nat} (hv : Val c f) (hd : d < 8) (hm : mate c f p 10 d = some e) : ¬ nb (c (fl c f d e)) (f (fl c f d e)) = some (c (fr c f d e)) := by
  obtain ⟨h1, h2⟩ := hv d hd
  by_cases hb : bes c f d 1 = some e
  · have q1 : fl c f d e = d := by simp [fl, hb]
    have q2 : fr c f d e = e := by simp [fr, hb]
    rw [q1, q2]
    have h3 := nb_fr0 _ h1 _ h2
    rw [bes_at hb] at h3
    simpa using h3
  · have q1 : fl c f d e = e := by simp [fl, hb]
    have q2 : fr c f d e = d := by simp [fr, hb]
    rw [q1, q2]
    have h4 : bes c f d 3 = some e ∧ f e = f d := by
      unfold mate at hm
      rw [if_neg (by decide)] at hm
      split at hm
      · split at hm
        · cases hm
        · rename_i h5
          split at hm
          · rename_i h6; cases hm; exact ⟨h5, h6.2⟩
          · cases hm
      · rename_i h7
        split at hm
        · cases hm; exact absurd h7 hb
        · split at hm
          · cases hm
          · rename_i h5
            split at hm
            · rename_i h6; cases hm; exact ⟨h5, h6.2⟩
            · cases hm
    have h3 := nb_fr1 _ h1 _ h2
    rw [bes_at h4.1] at h3
    rw [h4.2]
    simpa using h3
theorem gst_goes {c f : Nat → Nat} {p0 : Nat → Bool} (hv : Val c f) : ∀ i, i ≤ 8 → ∀ j, gst c f 10 p0 i j = goesB c (pst c f 10 p0 i).2.1 j
  | 0, _, j => by simp [gst, pst, goesB]
  | i + 1, hi, j => by
    have ih := gst_goes (p0 := p0) hv i (by omega)
    cases hp : (pst c f 10 p0 i).1 i with
    | false =>
      have he : pst c f 10 p0 (i + 1) = pst c f 10 p0 i := by rw [pst, hp]
      have he2 : gst c f 10 p0 (i + 1) = gst c f 10 p0 i := by rw [gst, hp]
      rw [he, he2]
      exact ih j
    | true =>
      cases hm : mate c f (pst c f 10 p0 i).1 10 i with
      | none =>
        have he : pst c f 10 p0 (i + 1) = pst c f 10 p0 i := by rw [pst, hp]; dsimp only; rw [hm]
        have he2 : gst c f 10 p0 (i + 1) = gst c f 10 p0 i := by rw [gst, hp]; dsimp only; rw [hm]
        rw [he, he2]
        exact ih j
      | some e =>
        have he : (pst c f 10 p0 (i + 1)).2.1 = up (pst c f 10 p0 i).2.1 (fr c f i e) (nb (c (fl c f i e)) (f (fl c f i e))) := by rw [pst, hp]; dsimp only; rw [hm]; rfl
        have he2 : gst c f 10 p0 (i + 1) = up (gst c f 10 p0 i) (fr c f i e) true := by rw [gst, hp]; dsimp only; rw [hm]; rfl
        rw [he, he2]
        have hg := fold_goes hv (by omega) hm
        have ihj := ih j
        unfold goesB at ihj ⊢
        unfold up
        by_cases q : j = fr c f i e
        · rw [if_pos q, if_pos q, q]
          simp [hg]
        · rw [if_neg q, if_neg q]
          exact ihj
theorem gst_zero {c f : Nat → Nat} {g : Nat} {p0 : Nat → Bool} : ∀ i, (pst c f g p0 i).2.2.2 = 0 → gst c f g p0 i = fun _ => false
  | 0, _ => rfl
  | i + 1, h => by
    have ih := gst_zero (c := c) (f := f) (g := g) (p0 := p0) i
    cases hp : (pst c f g p0 i).1 i with
    | false =>
      have he : pst c f g p0 (i + 1) = pst c f g p0 i := by rw [pst, hp]
      have he2 : gst c f g p0 (i + 1) = gst c f g p0 i := by rw [gst, hp]
      rw [he] at h
      rw [he2]
      exact ih h
    | true =>
      cases hm : mate c f (pst c f g p0 i).1 g i with
      | none =>
        have he : pst c f g p0 (i + 1) = pst c f g p0 i := by rw [pst, hp]; dsimp only; rw [hm]
        have he2 : gst c f g p0 (i + 1) = gst c f g p0 i := by rw [gst, hp]; dsimp only; rw [hm]
        rw [he] at h
        rw [he2]
        exact ih h
      | some e =>
        have he : (pst c f g p0 (i + 1)).2.2.2 = (pst c f g p0 i).2.2.2 + 1 := by rw [pst, hp]; dsimp only; rw [hm]
        rw [he] at h
        cases h
theorem PW_0 {c f : Nat → Nat} {w g : Nat} (h : fx (PY c f w g) g = false) : (fun j => nI (PW c f w g j)) = fun _ => nI 0 := by
  funext j
  simp [PW, h]
def TrP (Q : List AE) (W : (Nat → Int32) → (Nat → Int32) → (Nat → Int32) → (Nat → Int32) → Int32 → List AE) (c f : Nat → Nat) (w g : Nat) (r : Option Value) (w' : WD) : Prop :=
  r = some (.int (bI (POK c f w g))) ∧ ∃ rt ru rm rg rp, w' = (Q, W rt ru rm rg rp) ∧ (POK c f w g = true → (∀ j, j < 8 → rt j = stN (PT c f w g j)) ∧ (∀ j, j < 8 → ru j = nI (PU c f w g j)) ∧ rp = nI (PN c f w g))
section R6
variable {rc rf ro rt ru rm rg : Nat → Int32} {rp rq : Int32} {ry rl : Nat → Int32} {rn ra : Int32} {rw rk : Nat → Int64} {rx rz rd : Nat → Int32} {rM rU rK : Int32} {rT rR : Nat → Int32} {rL rN rA rF : Int32} {rC : Nat → Int64} {rO rB rY rP : Nat → Int32} {rb : Int32}
variable {Q : List AE} {c f : Nat → Nat}
theorem m_tries {w g : Nat} (hw : w < 9) (hg : g < 12) (hS : Sq rc rf c f) (hs : SdM ro c) (hi_ : Inj c) : SemP mX9_tries 6 0 0 [.ref 100, .int (nI w), .int (nI g)] (Q, mW rc rf ro rt ru rm rg rp rq ry rl rn ra rw rk rx rz rd rM rU rK rT rR rL rN rA rF rC rO rB rY rP rb) (TrP Q (fun rt ru rm rg rp => (Q, mW rc rf ro rt ru rm rg rp (nI (PY c f w g)) (fun j => nI (PW c f w g j)) rl rn ra rw rk rx rz rd rM rU rK rT rR rL rN rA rF rC rO rB rY rP rb).2) c f w g) := by
  refine semP_of (by decide) (Nat.le_of_ble_eq_true rfl) rfl ?_
  have hval := Sq_val hS
  generalize hw0 : (Q, mW rc rf ro rt ru rm rg rp rq ry rl rn ra rw rk rx rz rd rM rU rK rT rR rL rN rA rF rC rO rB rY rP rb) = w0
  have T : ∀ (t : Nat → Option Nat) (gs : Nat → Bool) (ru rm ry : Nat → Int32) (rp : Int32) (y : Nat) (x4 x5 : Option Value), Tl t → y < 10 → PY c f w g = y → (∀ j, j < 8 → wyM c t gs j = PW c f w g j) → (decide (y = 0) && !smM c t gs 8) = POK c f w g → (POK c f w g = true → (∀ j, j < 8 → t j = PT c f w g j) ∧ (∀ j, j < 8 → ru j = nI (PU c f w g j)) ∧ rp = nI (PN c f w g)) → Rp mX9_tries 6 0 0 w0 (TrP Q (fun rt ru rm rg rp => (Q, mW rc rf ro rt ru rm rg rp (nI (PY c f w g)) (fun j => nI (PW c f w g j)) rl rn ra rw rk rx rz rd rM rU rK rT rR rL rN rA rF rC rO rB rY rP rb).2) c f w g) 0 0 273 [some (.ref 100), some (.int (nI w)), some (.int (nI g)), some (.int (mbI (mnt c f w) 8)), x4, x5] [] (Q, mW rc rf ro (fun j => stN (t j)) ru rm (fun j => bI (gs j)) rp (nI y) ry rl rn ra rw rk rx rz rd rM rU rK rT rR rL rN rA rF rC rO rB rY rP rb) := by
    intro t gs ru rm ry rp y x4 x5 ht hy hPY hPW hPOK hend
    have L : ∀ (m i : Nat) (ry : Nat → Int32), i + m = 8 → (∀ j, j < i → ry j = nI (wyM c t gs j)) → Rp mX9_tries 6 0 0 w0 (TrP Q (fun rt ru rm rg rp => (Q, mW rc rf ro rt ru rm rg rp (nI (PY c f w g)) (fun j => nI (PW c f w g j)) rl rn ra rw rk rx rz rd rM rU rK rT rR rL rN rA rF rC rO rB rY rP rb).2) c f w g) 0 0 290 [some (.ref 100), some (.int (nI w)), some (.int (nI g)), some (.int (mbI (mnt c f w) 8)), some (.int (bI (decide (y = 0) && !smM c t gs i))), some (.int (nI i))] [] (Q, mW rc rf ro (fun j => stN (t j)) ru rm (fun j => bI (gs j)) rp (nI y) ry rl rn ra rw rk rx rz rd rM rU rK rT rR rL rN rA rF rC rO rB rY rP rb) := by
      intro m
      induction m with
      | zero =>
        intro i ry hi h1
        have : i = 8 := by omega
        subst this
        refine r_weq _ (weq_M (ry' := fun j => nI (PW c f w g j)) (fun _ _ => rfl) (fun _ _ => rfl) (fun _ _ => rfl) (fun _ _ => rfl) (fun _ _ => rfl) (fun _ _ => rfl) (fun _ _ => rfl) (fun j hj => by rw [h1 j hj, hPW j hj])) ?_
        rw [hPOK]
        refine r_iload dX9_tries_290 rfl ?_
        refine r_bipush (v := (nI 8)) dX9_tries_292 (by decide) ?_
        refine r_icmp_geN 350 dX9_tries_294 (by decide) (by omega) (by omega) (fun h294 => ?_) (fun h294 => ?_)
        · refine r_pc 350 rfl ?_
          refine r_iload dX9_tries_350 rfl ?_
          exact r_zretP dX9_tries_352 rfl (by cases POK c f w g <;> rfl) ⟨rfl, _, _, _, _, _, by rw [hPY], fun hk => ⟨fun j hj => by rw [(hend hk).1 j hj], (hend hk).2⟩⟩
        · exact absurd h294 (by omega)
      | succ m ih =>
        intro i ry hi h1
        have hi8 : i < 8 := by omega
        have hwl := wyM_lt c t gs i
        have G : ∀ (ry : Nat → Int32), (∀ j, j < i + 1 → ry j = nI (wyM c t gs j)) → Rp mX9_tries 6 0 0 w0 (TrP Q (fun rt ru rm rg rp => (Q, mW rc rf ro rt ru rm rg rp (nI (PY c f w g)) (fun j => nI (PW c f w g j)) rl rn ra rw rk rx rz rd rM rU rK rT rR rL rN rA rF rC rO rB rY rP rb).2) c f w g) 0 0 324 [some (.ref 100), some (.int (nI w)), some (.int (nI g)), some (.int (mbI (mnt c f w) 8)), some (.int (bI (decide (y = 0) && !smM c t gs i))), some (.int (nI i))] [] (Q, mW rc rf ro (fun j => stN (t j)) ru rm (fun j => bI (gs j)) rp (nI y) ry rl rn ra rw rk rx rz rd rM rU rK rT rR rL rN rA rF rC rO rB rY rP rb) := by
          intro ry h2
          have ih := ih (i + 1) ry (by omega) h2
          have e5 := h2 i (by omega)
          by_cases q : wyM c t gs i = 0
          · have hs1 : smM c t gs (i + 1) = smM c t gs i := by (show (smM c t gs i || _) = _; simp [q])
            rw [q] at e5
            rw [hs1] at ih
            refine r_iload dX9_tries_324 rfl ?_
            refine r_aload_n dX9_tries_326 rfl ?_
            refine r_get dX9_tries_327 fX9_83 rfl rfl ?_
            refine r_iload dX9_tries_330 rfl ?_
            refine r_iald dX9_tries_332 rfl rfl hi8 (by decide) ?_
            refine r_pc 333 rfl ?_
            refine r_topi _ e5 ?_
            refine r_if_ne 340 dX9_tries_333 (by decide) (fun h333 => ?_) (fun h333 => ?_)
            · exact absurd rfl h333
            · refine r_pc 336 rfl ?_
              refine r_iconst (v := (nI 1)) dX9_tries_336 (by decide) ?_
              refine r_goto 341 dX9_tries_337 (by decide) ?_
              refine r_iand dX9_tries_341 ?_
              refine r_topi (bI (decide (y = 0) && !smM c t gs i)) (by rw [show nI 1 = bI true from rfl, bI_and, Bool.and_true]) ?_
              refine r_istore (ls' := [_, _, _, _, _, _]) dX9_tries_342 (by decide) rfl ?_
              refine r_inc1 (ls' := [_, _, _, _, _, _]) dX9_tries_344 (by decide) rfl rfl ?_
              refine r_pc 347 rfl ?_
              refine r_goto 290 dX9_tries_347 (by decide) ?_
              refine r_pc 290 rfl ?_
              exact ih
          · have hs1 : smM c t gs (i + 1) = true := by (show (smM c t gs i || _) = _; simp [q])
            rw [hs1] at ih
            refine r_iload dX9_tries_324 rfl ?_
            refine r_aload_n dX9_tries_326 rfl ?_
            refine r_get dX9_tries_327 fX9_83 rfl rfl ?_
            refine r_iload dX9_tries_330 rfl ?_
            refine r_iald dX9_tries_332 rfl rfl hi8 (by decide) ?_
            refine r_pc 333 rfl ?_
            refine r_topi _ e5 ?_
            refine r_if_ne 340 dX9_tries_333 (by decide) (fun h333 => ?_) (fun h333 => ?_)
            · refine r_pc 340 rfl ?_
              refine r_iconst (v := (nI 0)) dX9_tries_340 (by decide) ?_
              refine r_iand dX9_tries_341 ?_
              refine r_topi (bI (decide (y = 0) && !true)) (by rw [show nI 0 = bI false from rfl, bI_and]; simp) ?_
              refine r_istore (ls' := [_, _, _, _, _, _]) dX9_tries_342 (by decide) rfl ?_
              refine r_inc1 (ls' := [_, _, _, _, _, _]) dX9_tries_344 (by decide) rfl rfl ?_
              refine r_goto 290 dX9_tries_347 (by decide) ?_
              refine r_pc 290 rfl ?_
              exact ih
            · exact absurd (nI_z (by omega) h333) q
        cases hg : gs i with
        | false =>
          have hw : nI (wyM c t gs i) = nI 0 := by simp [wyM, hg]
          refine r_iload dX9_tries_290 rfl ?_
          refine r_bipush (v := (nI 8)) dX9_tries_292 (by decide) ?_
          refine r_icmp_geN 350 dX9_tries_294 (by decide) (by omega) (by omega) (fun h294 => ?_) (fun h294 => ?_)
          · exact absurd h294 (by omega)
          · refine r_pc 297 rfl ?_
            refine r_aload_n dX9_tries_297 rfl ?_
            refine r_get dX9_tries_298 fX9_83 rfl rfl ?_
            refine r_iload dX9_tries_301 rfl ?_
            refine r_aload_n dX9_tries_303 rfl ?_
            refine r_get dX9_tries_304 fX9_79 rfl rfl ?_
            refine r_pc 307 rfl ?_
            refine r_iload dX9_tries_307 rfl ?_
            refine r_zald dX9_tries_309 rfl rfl hi8 (by decide) ?_
            refine r_topi _ (show bI (gs i) = bI false by rw [hg]) ?_
            refine r_if_eq 322 dX9_tries_310 (by decide) (fun h310 => ?_) (fun h310 => ?_)
            · refine r_pc 322 rfl ?_
              refine r_iconst (v := (nI 0)) dX9_tries_322 (by decide) ?_
              refine r_iast (w2 := (_, mW _ _ _ _ _ _ _ _ _ _ _ _ _ _ _ _ _ _ _ _ _ _ _ _ _ _ _ _ _ _ _ _ _)) dX9_tries_323 rfl rfl hi8 (by decide) rfl ?_
              refine r_pc 324 rfl ?_
              exact G _ (upd_lt h1 hw.symm)
            · exact absurd rfl h310
        | true =>
          have hw : nI (wyM c t gs i) = nI (whyM c t gs i) := by simp [wyM, hg]
          refine r_iload dX9_tries_290 rfl ?_
          refine r_bipush (v := (nI 8)) dX9_tries_292 (by decide) ?_
          refine r_icmp_geN 350 dX9_tries_294 (by decide) (by omega) (by omega) (fun h294 => ?_) (fun h294 => ?_)
          · exact absurd h294 (by omega)
          · refine r_pc 297 rfl ?_
            refine r_aload_n dX9_tries_297 rfl ?_
            refine r_get dX9_tries_298 fX9_83 rfl rfl ?_
            refine r_iload dX9_tries_301 rfl ?_
            refine r_aload_n dX9_tries_303 rfl ?_
            refine r_get dX9_tries_304 fX9_79 rfl rfl ?_
            refine r_pc 307 rfl ?_
            refine r_iload dX9_tries_307 rfl ?_
            refine r_zald dX9_tries_309 rfl rfl hi8 (by decide) ?_
            refine r_topi _ (show bI (gs i) = bI true by rw [hg]) ?_
            refine r_if_eq 322 dX9_tries_310 (by decide) (fun h310 => ?_) (fun h310 => ?_)
            · exact absurd h310 (by decide)
            · refine r_pc 313 rfl ?_
              refine r_aload_n dX9_tries_313 rfl ?_
              refine r_iload dX9_tries_314 rfl ?_
              refine r_cV dX9_tries_316 (m_fallOf (t := t) (gs := gs) hi8 hS hs ht (fun _ _ => rfl) (fun _ _ => rfl)) lX9_205 rfl rfl rfl (by decide) ⟨Nat.le_refl _, Nat.le_refl _⟩ (Nat.le_of_ble_eq_true rfl) ?_
              refine r_goto 323 dX9_tries_319 (by decide) ?_
              refine r_iast (w2 := (_, mW _ _ _ _ _ _ _ _ _ _ _ _ _ _ _ _ _ _ _ _ _ _ _ _ _ _ _ _ _ _ _ _ _)) dX9_tries_323 rfl rfl hi8 (by decide) rfl ?_
              refine r_pc 324 rfl ?_
              refine r_pc 324 rfl ?_
              exact G _ (upd_lt h1 hw.symm)
    have L := L 8 0 ry (by omega) (fun j h => absurd h (by omega))
    by_cases hy0 : y = 0
    · rw [show (decide (y = 0) && !smM c t gs 0) = true by simp [hy0, smM]] at L
      subst hy0
      refine r_aload_n dX9_tries_273 rfl ?_
      refine r_get dX9_tries_274 fX9_193 rfl rfl ?_
      refine r_if_ne 284 dX9_tries_277 (by decide) (fun h277 => ?_) (fun h277 => ?_)
      · exact absurd rfl h277
      · refine r_pc 280 rfl ?_
        refine r_iconst (v := (nI 1)) dX9_tries_280 (by decide) ?_
        refine r_goto 285 dX9_tries_281 (by decide) ?_
        refine r_istore (ls' := [_, _, _, _, _, _]) dX9_tries_285 (by decide) rfl ?_
        refine r_iconst (v := (nI 0)) dX9_tries_287 (by decide) ?_
        refine r_istore (ls' := [_, _, _, _, _, _]) dX9_tries_288 (by decide) rfl ?_
        refine r_pc 290 rfl ?_
        refine r_pc 290 rfl ?_
        exact L
    · rw [show (decide (y = 0) && !smM c t gs 0) = false by simp [hy0]] at L
      refine r_aload_n dX9_tries_273 rfl ?_
      refine r_get dX9_tries_274 fX9_193 rfl rfl ?_
      refine r_if_ne 284 dX9_tries_277 (by decide) (fun h277 => ?_) (fun h277 => ?_)
      · refine r_pc 284 rfl ?_
        refine r_iconst (v := (nI 0)) dX9_tries_284 (by decide) ?_
        refine r_istore (ls' := [_, _, _, _, _, _]) dX9_tries_285 (by decide) rfl ?_
        refine r_iconst (v := (nI 0)) dX9_tries_287 (by decide) ?_
        refine r_istore (ls' := [_, _, _, _, _, _]) dX9_tries_288 (by decide) rfl ?_
        refine r_pc 290 rfl ?_
        exact L
      · exact absurd (nI_z (by omega) h277) hy0
  have K : ∀ x5, Rp mX9_tries 6 0 0 w0 (TrP Q (fun rt ru rm rg rp => (Q, mW rc rf ro rt ru rm rg rp (nI (PY c f w g)) (fun j => nI (PW c f w g j)) rl rn ra rw rk rx rz rd rM rU rK rT rR rL rN rA rF rC rO rB rY rP rb).2) c f w g) 0 0 85 [some (.ref 100), some (.int (nI w)), some (.int (nI g)), some (.int (mbI (mnt c f w) 8)), some (.int (nI 8)), x5] [] (Q, mW rc rf ro (fun j => stN (some (c j))) (fun j => nI (f j)) (fun _ => -2) (fun _ => bI false) (nI 0) (nI 0) (fun _ => nI 0) rl rn ra rw rk rx rz rd rM rU rK rT rR rL rN rA rF rC rO rB rY rP rb) := by
    intro x5
    by_cases hno : noB (mnt c f w) = true
    · have e4 : PY c f w g = 4 := by simp only [PY, if_pos hno]
      have e5 : POK c f w g = false := by simp [POK, okx, e4]
      have e6 : fx (PY c f w g) g = false := by simp [fx, e4]
      refine r_iload_n dX9_tries_85 rfl ?_
      refine r_if_ne 96 dX9_tries_86 (by decide) (fun h86 => ?_) (fun h86 => ?_)
      · exact absurd ((noB_mb _).mpr hno) h86
      · refine r_pc 89 rfl ?_
        refine r_aload_n dX9_tries_89 rfl ?_
        refine r_iconst (v := (nI 4)) dX9_tries_90 (by decide) ?_
        refine r_put (w2 := (_, mW _ _ _ _ _ _ _ _ _ _ _ _ _ _ _ _ _ _ _ _ _ _ _ _ _ _ _ _ _ _ _ _ _)) dX9_tries_91 fX9_193 rfl rfl (Nat.le_of_ble_eq_true rfl) (fun _ => rfl) (fun _ => rfl) rfl ?_
        refine r_iconst (v := (nI 0)) dX9_tries_94 (by decide) ?_
        exact r_zretP dX9_tries_95 rfl rfl ⟨by rw [e5]; rfl, _, _, _, _, _, by rw [e4, PW_0 e6], fun hk => by rw [e5] at hk; cases hk⟩
    · have hz : ¬ mbI (mnt c f w) 8 = 0 := fun q => hno ((noB_mb _).mp q)
      by_cases h11 : g = 11
      · cases hk : rok c f w with
        | true =>
          have e1 : PT c f w g = (fun j => some (rgT c j)) := by simp only [PT, if_neg hno, if_pos h11, hk, if_true]
          have e2 : PU c f w g = rgU c := by simp only [PU, if_neg hno, if_pos h11, hk, if_true]
          have e3 : PN c f w g = 8 := by simp only [PN, if_neg hno, if_pos h11, hk, if_true]
          have e4 : PY c f w g = 0 := by simp only [PY, if_neg hno, if_pos h11, hk, if_true]
          have e6 : fx (PY c f w g) g = false := by simp [fx, e4, h11]
          have e5 : POK c f w g = true := by rw [POK, okx, e6]; simp [e4]
          refine r_iload_n dX9_tries_85 rfl ?_
          refine r_if_ne 96 dX9_tries_86 (by decide) (fun h86 => ?_) (fun h86 => ?_)
          · refine r_pc 96 rfl ?_
            refine r_iload_n dX9_tries_96 rfl ?_
            refine r_bipush (v := (nI 11)) dX9_tries_97 (by decide) ?_
            refine r_icmp_neN 120 dX9_tries_99 (by decide) (by omega) (by omega) (fun h99 => ?_) (fun h99 => ?_)
            · exact absurd h11 h99
            · refine r_pc 102 rfl ?_
              refine r_aload_n dX9_tries_102 rfl ?_
              refine r_iload_n dX9_tries_103 rfl ?_
              refine r_cVv dX9_tries_104 (m_rings1 hS hk) lX9_199 rfl rfl rfl (by decide) ⟨Nat.le_refl _, Nat.le_refl _⟩ (Nat.le_of_ble_eq_true rfl) ?_
              refine r_aload_n dX9_tries_107 rfl ?_
              refine r_get dX9_tries_108 fX9_193 rfl rfl ?_
              refine r_pc 111 rfl ?_
              refine r_if_ne 118 dX9_tries_111 (by decide) (fun h111 => ?_) (fun h111 => ?_)
              · exact absurd rfl h111
              · refine r_pc 114 rfl ?_
                refine r_iconst (v := (nI 1)) dX9_tries_114 (by decide) ?_
                refine r_goto 119 dX9_tries_115 (by decide) ?_
                exact r_zretP dX9_tries_119 rfl rfl ⟨by rw [e5]; rfl, _, _, _, _, _, by rw [e4, PW_0 e6], fun _ => ⟨fun j _ => by rw [e1]; rfl, fun j _ => by rw [e2], by rw [e3]⟩⟩
          · exact absurd h86 hz
        | false =>
          have e4 : PY c f w g = 5 := by simp only [PY, if_neg hno, if_pos h11, hk, Bool.false_eq_true, if_false]
          have e6 : fx (PY c f w g) g = false := by simp [fx, e4]
          have e5 : POK c f w g = false := by simp [POK, okx, e4]
          refine r_iload_n dX9_tries_85 rfl ?_
          refine r_if_ne 96 dX9_tries_86 (by decide) (fun h86 => ?_) (fun h86 => ?_)
          · refine r_pc 96 rfl ?_
            refine r_iload_n dX9_tries_96 rfl ?_
            refine r_bipush (v := (nI 11)) dX9_tries_97 (by decide) ?_
            refine r_icmp_neN 120 dX9_tries_99 (by decide) (by omega) (by omega) (fun h99 => ?_) (fun h99 => ?_)
            · exact absurd h11 h99
            · refine r_pc 102 rfl ?_
              refine r_aload_n dX9_tries_102 rfl ?_
              refine r_iload_n dX9_tries_103 rfl ?_
              refine r_cVP dX9_tries_104 (m_rings0 hS hi_ hk) lX9_199 rfl rfl rfl (by decide) ⟨Nat.le_refl _, Nat.le_refl _⟩ (Nat.le_of_ble_eq_true rfl) (fun r w2 hpz => ?_)
              obtain ⟨rfl, rt', ru', rg', rfl⟩ := hpz
              refine r_pc 107 rfl ?_
              refine r_aload_n dX9_tries_107 rfl ?_
              refine r_get dX9_tries_108 fX9_193 rfl rfl ?_
              refine r_pc 111 rfl ?_
              refine r_if_ne 118 dX9_tries_111 (by decide) (fun h111 => ?_) (fun h111 => ?_)
              · refine r_pc 118 rfl ?_
                refine r_iconst (v := (nI 0)) dX9_tries_118 (by decide) ?_
                exact r_zretP dX9_tries_119 rfl rfl ⟨by rw [e5]; rfl, _, _, _, _, _, by rw [e4, PW_0 e6], fun hk => by rw [e5] at hk; cases hk⟩
              · exact absurd h111 (by decide)
          · exact absurd h86 hz
      · by_cases h4 : g ≤ 4
        · have e1 : PT c f w g = eT c f (mnt c f w) g := by simp only [PT, if_neg hno, if_neg h11, if_pos h4]
          have e2 : PU c f w g = eU f (mnt c f w) g := by simp only [PU, if_neg hno, if_neg h11, if_pos h4]
          have e3 : PN c f w g = cnt (mnt c f w) 8 := by simp only [PN, if_neg hno, if_neg h11, if_pos h4]
          have e4 : PY c f w g = 0 := by simp only [PY, if_neg hno, if_neg h11, if_pos h4]
          have hgs : ∀ j, j < 8 → gE (mnt c f w) g j = goesB c (PT c f w g) j := fun j hj => by rw [e1]; exact gE_eq hval hj
          have T := fun x4 x5 => T (PT c f w g) (gE (mnt c f w) g) (fun j => nI (PU c f w g j)) (fun _ => -2) (fun _ => nI 0) (nI (PN c f w g)) 0 x4 x5 (PT_Tl hval) (by decide) e4 (fun j hj => by
            unfold PW
            rw [wyM_eq hi_ hgs hj]
            cases hfx : fx (PY c f w g) g with
            | true => rfl
            | false =>
              rw [if_neg (by decide)]
              rw [wy, ← hgs j hj]
              have : ¬ g ≤ 1 := by simp [fx, e4] at hfx; omega
              simp [gE, this]) (by
            rw [smM_eq hi_ hgs 8 (Nat.le_refl _), POK, okx, e4]
            cases hfx : fx 0 g with
            | true => simp
            | false =>
              have hg1 : ¬ g ≤ 1 := by simp [fx] at hfx; omega
              have : smf c (PT c f w g) 8 = false := by
                rw [← smM_eq hi_ hgs 8 (Nat.le_refl _)]
                exact smM_f (fun j hj => by simp [gE, hg1]) 8 (Nat.le_refl _)
              simp [this]) (fun _ => ⟨fun _ _ => rfl, fun _ _ => rfl, rfl⟩)
          have L : ∀ (m i : Nat) (rt ru rg : Nat → Int32), i + m = 8 → (∀ j, j < i → rt j = stN (eT c f (mnt c f w) g j)) → (∀ j, j < i → ru j = nI (eU f (mnt c f w) g j)) → (∀ j, j < i → rg j = bI (gE (mnt c f w) g j)) → (∀ j, i ≤ j → j < 8 → rt j = nI (c j)) → (∀ j, i ≤ j → j < 8 → ru j = nI (f j)) → (∀ j, i ≤ j → j < 8 → rg j = bI false) → Rp mX9_tries 6 0 0 w0 (TrP Q (fun rt ru rm rg rp => (Q, mW rc rf ro rt ru rm rg rp (nI (PY c f w g)) (fun j => nI (PW c f w g j)) rl rn ra rw rk rx rz rd rM rU rK rT rR rL rN rA rF rC rO rB rY rP rb).2) c f w g) 0 0 165 [some (.ref 100), some (.int (nI w)), some (.int (nI g)), some (.int (mbI (mnt c f w) 8)), some (.int (nI i)), x5] [] (Q, mW rc rf ro rt ru (fun _ => -2) rg (nI (cnt (mnt c f w) i)) (nI 0) (fun _ => nI 0) rl rn ra rw rk rx rz rd rM rU rK rT rR rL rN rA rF rC rO rB rY rP rb) := by
            intro m
            induction m with
            | zero =>
              intro i rt ru rg hi h1 h2 h3 _ _ _
              have : i = 8 := by omega
              subst this
              refine r_weq _ (weq_M (rt' := fun j => stN (PT c f w g j)) (ru' := fun j => nI (PU c f w g j)) (rg' := fun j => bI (gE (mnt c f w) g j)) (fun _ _ => rfl) (fun _ _ => rfl) (fun _ _ => rfl) (fun j hj => by rw [e1]; exact h1 j hj) (fun j hj => by rw [e2]; exact h2 j hj) (fun _ _ => rfl) h3 (fun _ _ => rfl)) ?_
              rw [← e3]
              refine r_iload dX9_tries_165 rfl ?_
              refine r_bipush (v := (nI 8)) dX9_tries_167 (by decide) ?_
              refine r_icmp_geN 273 dX9_tries_169 (by decide) (by omega) (by omega) (fun h169 => ?_) (fun h169 => ?_)
              · refine r_pc 273 rfl ?_
                refine r_pc 273 rfl ?_
                exact T _ _
              · exact absurd h169 (by omega)
            | succ m ih =>
              intro i rt ru rg hi h1 h2 h3 h4 h5 h6
              have hi8 : i < 8 := by omega
              obtain ⟨q1, b1, q2, b2⟩ := hS i hi8
              have ih := fun (rt' ru' rg' : Nat → Int32) (a1 : rt' i = stN (eT c f (mnt c f w) g i)) (a2 : ru' i = nI (eU f (mnt c f w) g i)) (a3 : rg' i = bI (gE (mnt c f w) g i)) (a4 : ∀ j, j ≠ i → rt' j = rt j) (a5 : ∀ j, j ≠ i → ru' j = ru j) (a6 : ∀ j, j ≠ i → rg' j = rg j) => ih (i + 1) rt' ru' rg' (by omega) (fun j hj => by by_cases e : j = i; (subst e; exact a1); (rw [a4 j e]; exact h1 j (by omega))) (fun j hj => by by_cases e : j = i; (subst e; exact a2); (rw [a5 j e]; exact h2 j (by omega))) (fun j hj => by by_cases e : j = i; (subst e; exact a3); (rw [a6 j e]; exact h3 j (by omega))) (fun j hj hj8 => by rw [a4 j (by omega)]; exact h4 j (by omega) hj8) (fun j hj hj8 => by rw [a5 j (by omega)]; exact h5 j (by omega) hj8) (fun j hj hj8 => by rw [a6 j (by omega)]; exact h6 j (by omega) hj8)
              have c1 := h4 i (by omega) hi8
              have c2 := h5 i (by omega) hi8
              have c3 := h6 i (by omega) hi8
              unfold cnt at ih
              unfold eT eU gE at ih
              cases hp : mnt c f w i with
              | false =>
                rw [hp] at ih
                have ih := ih rt ru rg c1 c2 c3 (fun _ _ => rfl) (fun _ _ => rfl) (fun _ _ => rfl)
                refine r_iload dX9_tries_165 rfl ?_
                refine r_bipush (v := (nI 8)) dX9_tries_167 (by decide) ?_
                refine r_icmp_geN 273 dX9_tries_169 (by decide) (by omega) (by omega) (fun h169 => ?_) (fun h169 => ?_)
                · exact absurd h169 (by omega)
                · refine r_pc 172 rfl ?_
                  refine r_iload_n dX9_tries_172 rfl ?_
                  refine r_iload dX9_tries_173 rfl ?_
                  refine r_cS dX9_tries_175 (m_hasB _ _ hi8) lX9_158 rfl rfl (by decide) ⟨Nat.le_refl _, Nat.le_refl _⟩ (Nat.le_of_ble_eq_true rfl) ?_
                  rw [hp]
                  refine r_if_ne 184 dX9_tries_178 (by decide) (fun h178 => ?_) (fun h178 => ?_)
                  · exact absurd rfl h178
                  · refine r_pc 181 rfl ?_
                    refine r_goto 267 dX9_tries_181 (by decide) ?_
                    refine r_inc1 (ls' := [_, _, _, _, _, _]) dX9_tries_267 (by decide) rfl rfl ?_
                    refine r_goto 165 dX9_tries_270 (by decide) ?_
                    refine r_pc 165 rfl ?_
                    exact ih
              | true =>
                rw [hp] at ih
                dsimp only at ih
                rcases (show g = 0 ∨ g = 1 ∨ g = 2 ∨ g = 3 ∨ g = 4 by omega) with rfl | rfl | rfl | rfl | rfl
                · have ih := ih (upd rt i (stN (nb (c i) (f i)))) ru (upd rg i (nI 1)) pk_us c2 pk_us (fun j hj => pk_un hj) (fun _ _ => rfl) (fun j hj => pk_un hj)
                  refine r_iload dX9_tries_165 rfl ?_
                  refine r_bipush (v := (nI 8)) dX9_tries_167 (by decide) ?_
                  refine r_icmp_geN 273 dX9_tries_169 (by decide) (by omega) (by omega) (fun h169 => ?_) (fun h169 => ?_)
                  · exact absurd h169 (by omega)
                  · refine r_pc 172 rfl ?_
                    refine r_iload_n dX9_tries_172 rfl ?_
                    refine r_iload dX9_tries_173 rfl ?_
                    refine r_cS dX9_tries_175 (m_hasB _ _ hi8) lX9_158 rfl rfl (by decide) ⟨Nat.le_refl _, Nat.le_refl _⟩ (Nat.le_of_ble_eq_true rfl) ?_
                    rw [hp]
                    refine r_if_ne 184 dX9_tries_178 (by decide) (fun h178 => ?_) (fun h178 => ?_)
                    · refine r_pc 184 rfl ?_
                      refine r_aload_n dX9_tries_184 rfl ?_
                      refine r_dup dX9_tries_185 rfl ?_
                      refine r_get dX9_tries_186 fX9_183 rfl rfl ?_
                      refine r_iconst (v := (nI 1)) dX9_tries_189 (by decide) ?_
                      refine r_iaddN dX9_tries_190 ?_
                      refine r_pc 191 rfl ?_
                      refine r_put (w2 := (_, mW _ _ _ _ _ _ _ _ _ _ _ _ _ _ _ _ _ _ _ _ _ _ _ _ _ _ _ _ _ _ _ _ _)) dX9_tries_191 fX9_183 rfl rfl (Nat.le_of_ble_eq_true rfl) (fun _ => rfl) (fun _ => rfl) rfl ?_
                      refine r_iload_n dX9_tries_194 rfl ?_
                      refine r_if_eq 203 dX9_tries_195 (by decide) (fun h195 => ?_) (fun h195 => ?_)
                      · refine r_pc 203 rfl ?_
                        refine r_aload_n dX9_tries_203 rfl ?_
                        refine r_iload dX9_tries_204 rfl ?_
                        refine r_aload_n dX9_tries_206 rfl ?_
                        refine r_get dX9_tries_207 fX9_60 rfl rfl ?_
                        refine r_iload dX9_tries_210 rfl ?_
                        refine r_pc 212 rfl ?_
                        refine r_iald dX9_tries_212 rfl rfl hi8 (by decide) ?_
                        refine r_topi _ q1 ?_
                        refine r_aload_n dX9_tries_213 rfl ?_
                        refine r_get dX9_tries_214 fX9_64 rfl rfl ?_
                        refine r_iload dX9_tries_217 rfl ?_
                        refine r_iald dX9_tries_219 rfl rfl hi8 (by decide) ?_
                        refine r_pc 220 rfl ?_
                        refine r_topi _ q2 ?_
                        refine r_iload_n dX9_tries_220 rfl ?_
                        refine r_iconst (v := (nI 1)) dX9_tries_221 (by decide) ?_
                        refine r_icmp_ne 229 dX9_tries_222 (by decide) (fun h222 => ?_) (fun h222 => ?_)
                        · refine r_pc 229 rfl ?_
                          refine r_iconst (v := (nI 0)) dX9_tries_229 (by decide) ?_
                          refine r_iaddN dX9_tries_230 ?_
                          refine r_iconst (v := (nI 4)) dX9_tries_231 (by decide) ?_
                          refine r_iremN dX9_tries_232 (by omega) (by decide) (by decide) ?_
                          refine r_topi (nI (f i)) (congrArg nI (Nat.mod_eq_of_lt b2)) ?_
                          refine r_cS dX9_tries_233 (m_next _ b1 b2) lX9_151 rfl rfl (by decide) ⟨Nat.le_refl _, Nat.le_refl _⟩ (Nat.le_of_ble_eq_true rfl) ?_
                          refine r_pc 236 rfl ?_
                          refine r_cVv dX9_tries_236 (m_goesTo hi8) lX9_172 rfl rfl rfl (by decide) ⟨Nat.le_refl _, Nat.le_refl _⟩ (Nat.le_of_ble_eq_true rfl) ?_
                          refine r_goto 267 dX9_tries_239 (by decide) ?_
                          refine r_inc1 (ls' := [_, _, _, _, _, _]) dX9_tries_267 (by decide) rfl rfl ?_
                          refine r_goto 165 dX9_tries_270 (by decide) ?_
                          refine r_pc 165 rfl ?_
                          exact ih
                        · exact absurd h222 (by decide)
                      · exact absurd rfl h195
                    · exact absurd h178 (by decide)
                · have ih := ih (upd rt i (stN (nb (c i) ((f i + 2) % 4)))) ru (upd rg i (nI 1)) pk_us c2 pk_us (fun j hj => pk_un hj) (fun _ _ => rfl) (fun j hj => pk_un hj)
                  refine r_iload dX9_tries_165 rfl ?_
                  refine r_bipush (v := (nI 8)) dX9_tries_167 (by decide) ?_
                  refine r_icmp_geN 273 dX9_tries_169 (by decide) (by omega) (by omega) (fun h169 => ?_) (fun h169 => ?_)
                  · exact absurd h169 (by omega)
                  · refine r_pc 172 rfl ?_
                    refine r_iload_n dX9_tries_172 rfl ?_
                    refine r_iload dX9_tries_173 rfl ?_
                    refine r_cS dX9_tries_175 (m_hasB _ _ hi8) lX9_158 rfl rfl (by decide) ⟨Nat.le_refl _, Nat.le_refl _⟩ (Nat.le_of_ble_eq_true rfl) ?_
                    rw [hp]
                    refine r_if_ne 184 dX9_tries_178 (by decide) (fun h178 => ?_) (fun h178 => ?_)
                    · refine r_pc 184 rfl ?_
                      refine r_aload_n dX9_tries_184 rfl ?_
                      refine r_dup dX9_tries_185 rfl ?_
                      refine r_get dX9_tries_186 fX9_183 rfl rfl ?_
                      refine r_iconst (v := (nI 1)) dX9_tries_189 (by decide) ?_
                      refine r_iaddN dX9_tries_190 ?_
                      refine r_pc 191 rfl ?_
                      refine r_put (w2 := (_, mW _ _ _ _ _ _ _ _ _ _ _ _ _ _ _ _ _ _ _ _ _ _ _ _ _ _ _ _ _ _ _ _ _)) dX9_tries_191 fX9_183 rfl rfl (Nat.le_of_ble_eq_true rfl) (fun _ => rfl) (fun _ => rfl) rfl ?_
                      refine r_iload_n dX9_tries_194 rfl ?_
                      refine r_if_eq 203 dX9_tries_195 (by decide) (fun h195 => ?_) (fun h195 => ?_)
                      · exact absurd h195 (by decide)
                      · refine r_pc 198 rfl ?_
                        refine r_iload_n dX9_tries_198 rfl ?_
                        refine r_iconst (v := (nI 1)) dX9_tries_199 (by decide) ?_
                        refine r_icmp_neN 242 dX9_tries_200 (by decide) (by omega) (by omega) (fun h200 => ?_) (fun h200 => ?_)
                        · exact absurd rfl h200
                        · refine r_pc 203 rfl ?_
                          refine r_aload_n dX9_tries_203 rfl ?_
                          refine r_iload dX9_tries_204 rfl ?_
                          refine r_aload_n dX9_tries_206 rfl ?_
                          refine r_get dX9_tries_207 fX9_60 rfl rfl ?_
                          refine r_iload dX9_tries_210 rfl ?_
                          refine r_pc 212 rfl ?_
                          refine r_iald dX9_tries_212 rfl rfl hi8 (by decide) ?_
                          refine r_topi _ q1 ?_
                          refine r_aload_n dX9_tries_213 rfl ?_
                          refine r_get dX9_tries_214 fX9_64 rfl rfl ?_
                          refine r_iload dX9_tries_217 rfl ?_
                          refine r_iald dX9_tries_219 rfl rfl hi8 (by decide) ?_
                          refine r_pc 220 rfl ?_
                          refine r_topi _ q2 ?_
                          refine r_iload_n dX9_tries_220 rfl ?_
                          refine r_iconst (v := (nI 1)) dX9_tries_221 (by decide) ?_
                          refine r_icmp_ne 229 dX9_tries_222 (by decide) (fun h222 => ?_) (fun h222 => ?_)
                          · exact absurd rfl h222
                          · refine r_pc 225 rfl ?_
                            refine r_iconst (v := (nI 2)) dX9_tries_225 (by decide) ?_
                            refine r_goto 230 dX9_tries_226 (by decide) ?_
                            refine r_iaddN dX9_tries_230 ?_
                            refine r_iconst (v := (nI 4)) dX9_tries_231 (by decide) ?_
                            refine r_iremN dX9_tries_232 (by omega) (by decide) (by decide) ?_
                            refine r_pc 233 rfl ?_
                            refine r_cS dX9_tries_233 (m_next _ b1 (Nat.mod_lt _ (by decide))) lX9_151 rfl rfl (by decide) ⟨Nat.le_refl _, Nat.le_refl _⟩ (Nat.le_of_ble_eq_true rfl) ?_
                            refine r_cVv dX9_tries_236 (m_goesTo hi8) lX9_172 rfl rfl rfl (by decide) ⟨Nat.le_refl _, Nat.le_refl _⟩ (Nat.le_of_ble_eq_true rfl) ?_
                            refine r_goto 267 dX9_tries_239 (by decide) ?_
                            refine r_inc1 (ls' := [_, _, _, _, _, _]) dX9_tries_267 (by decide) rfl rfl ?_
                            refine r_goto 165 dX9_tries_270 (by decide) ?_
                            refine r_pc 165 rfl ?_
                            exact ih
                    · exact absurd h178 (by decide)
                · have ih := ih rt (upd ru i (nI ((f i + 3) % 4))) rg c1 pk_us c3 (fun _ _ => rfl) (fun j hj => pk_un hj) (fun _ _ => rfl)
                  refine r_iload dX9_tries_165 rfl ?_
                  refine r_bipush (v := (nI 8)) dX9_tries_167 (by decide) ?_
                  refine r_icmp_geN 273 dX9_tries_169 (by decide) (by omega) (by omega) (fun h169 => ?_) (fun h169 => ?_)
                  · exact absurd h169 (by omega)
                  · refine r_pc 172 rfl ?_
                    refine r_iload_n dX9_tries_172 rfl ?_
                    refine r_iload dX9_tries_173 rfl ?_
                    refine r_cS dX9_tries_175 (m_hasB _ _ hi8) lX9_158 rfl rfl (by decide) ⟨Nat.le_refl _, Nat.le_refl _⟩ (Nat.le_of_ble_eq_true rfl) ?_
                    rw [hp]
                    refine r_if_ne 184 dX9_tries_178 (by decide) (fun h178 => ?_) (fun h178 => ?_)
                    · refine r_pc 184 rfl ?_
                      refine r_aload_n dX9_tries_184 rfl ?_
                      refine r_dup dX9_tries_185 rfl ?_
                      refine r_get dX9_tries_186 fX9_183 rfl rfl ?_
                      refine r_iconst (v := (nI 1)) dX9_tries_189 (by decide) ?_
                      refine r_iaddN dX9_tries_190 ?_
                      refine r_pc 191 rfl ?_
                      refine r_put (w2 := (_, mW _ _ _ _ _ _ _ _ _ _ _ _ _ _ _ _ _ _ _ _ _ _ _ _ _ _ _ _ _ _ _ _ _)) dX9_tries_191 fX9_183 rfl rfl (Nat.le_of_ble_eq_true rfl) (fun _ => rfl) (fun _ => rfl) rfl ?_
                      refine r_iload_n dX9_tries_194 rfl ?_
                      refine r_if_eq 203 dX9_tries_195 (by decide) (fun h195 => ?_) (fun h195 => ?_)
                      · exact absurd h195 (by decide)
                      · refine r_pc 198 rfl ?_
                        refine r_iload_n dX9_tries_198 rfl ?_
                        refine r_iconst (v := (nI 1)) dX9_tries_199 (by decide) ?_
                        refine r_icmp_neN 242 dX9_tries_200 (by decide) (by omega) (by omega) (fun h200 => ?_) (fun h200 => ?_)
                        · refine r_pc 242 rfl ?_
                          refine r_aload_n dX9_tries_242 rfl ?_
                          refine r_iload dX9_tries_243 rfl ?_
                          refine r_iload_n dX9_tries_245 rfl ?_
                          refine r_iconst (v := (nI 2)) dX9_tries_246 (by decide) ?_
                          refine r_icmp_neN 254 dX9_tries_247 (by decide) (by omega) (by omega) (fun h247 => ?_) (fun h247 => ?_)
                          · exact absurd rfl h247
                          · refine r_pc 250 rfl ?_
                            refine r_iconst (v := (nI 3)) dX9_tries_250 (by decide) ?_
                            refine r_goto 264 dX9_tries_251 (by decide) ?_
                            refine r_cVv dX9_tries_264 (m_turns hi8 (by decide) hS) lX9_176 rfl rfl rfl (by decide) ⟨Nat.le_refl _, Nat.le_refl _⟩ (Nat.le_of_ble_eq_true rfl) ?_
                            refine r_inc1 (ls' := [_, _, _, _, _, _]) dX9_tries_267 (by decide) rfl rfl ?_
                            refine r_goto 165 dX9_tries_270 (by decide) ?_
                            refine r_pc 165 rfl ?_
                            exact ih
                        · exact absurd h200 (by decide)
                    · exact absurd h178 (by decide)
                · have ih := ih rt (upd ru i (nI ((f i + 1) % 4))) rg c1 pk_us c3 (fun _ _ => rfl) (fun j hj => pk_un hj) (fun _ _ => rfl)
                  refine r_iload dX9_tries_165 rfl ?_
                  refine r_bipush (v := (nI 8)) dX9_tries_167 (by decide) ?_
                  refine r_icmp_geN 273 dX9_tries_169 (by decide) (by omega) (by omega) (fun h169 => ?_) (fun h169 => ?_)
                  · exact absurd h169 (by omega)
                  · refine r_pc 172 rfl ?_
                    refine r_iload_n dX9_tries_172 rfl ?_
                    refine r_iload dX9_tries_173 rfl ?_
                    refine r_cS dX9_tries_175 (m_hasB _ _ hi8) lX9_158 rfl rfl (by decide) ⟨Nat.le_refl _, Nat.le_refl _⟩ (Nat.le_of_ble_eq_true rfl) ?_
                    rw [hp]
                    refine r_if_ne 184 dX9_tries_178 (by decide) (fun h178 => ?_) (fun h178 => ?_)
                    · refine r_pc 184 rfl ?_
                      refine r_aload_n dX9_tries_184 rfl ?_
                      refine r_dup dX9_tries_185 rfl ?_
                      refine r_get dX9_tries_186 fX9_183 rfl rfl ?_
                      refine r_iconst (v := (nI 1)) dX9_tries_189 (by decide) ?_
                      refine r_iaddN dX9_tries_190 ?_
                      refine r_pc 191 rfl ?_
                      refine r_put (w2 := (_, mW _ _ _ _ _ _ _ _ _ _ _ _ _ _ _ _ _ _ _ _ _ _ _ _ _ _ _ _ _ _ _ _ _)) dX9_tries_191 fX9_183 rfl rfl (Nat.le_of_ble_eq_true rfl) (fun _ => rfl) (fun _ => rfl) rfl ?_
                      refine r_iload_n dX9_tries_194 rfl ?_
                      refine r_if_eq 203 dX9_tries_195 (by decide) (fun h195 => ?_) (fun h195 => ?_)
                      · exact absurd h195 (by decide)
                      · refine r_pc 198 rfl ?_
                        refine r_iload_n dX9_tries_198 rfl ?_
                        refine r_iconst (v := (nI 1)) dX9_tries_199 (by decide) ?_
                        refine r_icmp_neN 242 dX9_tries_200 (by decide) (by omega) (by omega) (fun h200 => ?_) (fun h200 => ?_)
                        · refine r_pc 242 rfl ?_
                          refine r_aload_n dX9_tries_242 rfl ?_
                          refine r_iload dX9_tries_243 rfl ?_
                          refine r_iload_n dX9_tries_245 rfl ?_
                          refine r_iconst (v := (nI 2)) dX9_tries_246 (by decide) ?_
                          refine r_icmp_neN 254 dX9_tries_247 (by decide) (by omega) (by omega) (fun h247 => ?_) (fun h247 => ?_)
                          · refine r_pc 254 rfl ?_
                            refine r_iload_n dX9_tries_254 rfl ?_
                            refine r_iconst (v := (nI 4)) dX9_tries_255 (by decide) ?_
                            refine r_icmp_neN 263 dX9_tries_256 (by decide) (by omega) (by omega) (fun h256 => ?_) (fun h256 => ?_)
                            · refine r_pc 263 rfl ?_
                              refine r_iconst (v := (nI 1)) dX9_tries_263 (by decide) ?_
                              refine r_cVv dX9_tries_264 (m_turns hi8 (by decide) hS) lX9_176 rfl rfl rfl (by decide) ⟨Nat.le_refl _, Nat.le_refl _⟩ (Nat.le_of_ble_eq_true rfl) ?_
                              refine r_inc1 (ls' := [_, _, _, _, _, _]) dX9_tries_267 (by decide) rfl rfl ?_
                              refine r_goto 165 dX9_tries_270 (by decide) ?_
                              refine r_pc 165 rfl ?_
                              exact ih
                            · exact absurd h256 (by decide)
                          · exact absurd h247 (by decide)
                        · exact absurd h200 (by decide)
                    · exact absurd h178 (by decide)
                · have ih := ih rt (upd ru i (nI ((f i + 2) % 4))) rg c1 pk_us c3 (fun _ _ => rfl) (fun j hj => pk_un hj) (fun _ _ => rfl)
                  refine r_iload dX9_tries_165 rfl ?_
                  refine r_bipush (v := (nI 8)) dX9_tries_167 (by decide) ?_
                  refine r_icmp_geN 273 dX9_tries_169 (by decide) (by omega) (by omega) (fun h169 => ?_) (fun h169 => ?_)
                  · exact absurd h169 (by omega)
                  · refine r_pc 172 rfl ?_
                    refine r_iload_n dX9_tries_172 rfl ?_
                    refine r_iload dX9_tries_173 rfl ?_
                    refine r_cS dX9_tries_175 (m_hasB _ _ hi8) lX9_158 rfl rfl (by decide) ⟨Nat.le_refl _, Nat.le_refl _⟩ (Nat.le_of_ble_eq_true rfl) ?_
                    rw [hp]
                    refine r_if_ne 184 dX9_tries_178 (by decide) (fun h178 => ?_) (fun h178 => ?_)
                    · refine r_pc 184 rfl ?_
                      refine r_aload_n dX9_tries_184 rfl ?_
                      refine r_dup dX9_tries_185 rfl ?_
                      refine r_get dX9_tries_186 fX9_183 rfl rfl ?_
                      refine r_iconst (v := (nI 1)) dX9_tries_189 (by decide) ?_
                      refine r_iaddN dX9_tries_190 ?_
                      refine r_pc 191 rfl ?_
                      refine r_put (w2 := (_, mW _ _ _ _ _ _ _ _ _ _ _ _ _ _ _ _ _ _ _ _ _ _ _ _ _ _ _ _ _ _ _ _ _)) dX9_tries_191 fX9_183 rfl rfl (Nat.le_of_ble_eq_true rfl) (fun _ => rfl) (fun _ => rfl) rfl ?_
                      refine r_iload_n dX9_tries_194 rfl ?_
                      refine r_if_eq 203 dX9_tries_195 (by decide) (fun h195 => ?_) (fun h195 => ?_)
                      · exact absurd h195 (by decide)
                      · refine r_pc 198 rfl ?_
                        refine r_iload_n dX9_tries_198 rfl ?_
                        refine r_iconst (v := (nI 1)) dX9_tries_199 (by decide) ?_
                        refine r_icmp_neN 242 dX9_tries_200 (by decide) (by omega) (by omega) (fun h200 => ?_) (fun h200 => ?_)
                        · refine r_pc 242 rfl ?_
                          refine r_aload_n dX9_tries_242 rfl ?_
                          refine r_iload dX9_tries_243 rfl ?_
                          refine r_iload_n dX9_tries_245 rfl ?_
                          refine r_iconst (v := (nI 2)) dX9_tries_246 (by decide) ?_
                          refine r_icmp_neN 254 dX9_tries_247 (by decide) (by omega) (by omega) (fun h247 => ?_) (fun h247 => ?_)
                          · refine r_pc 254 rfl ?_
                            refine r_iload_n dX9_tries_254 rfl ?_
                            refine r_iconst (v := (nI 4)) dX9_tries_255 (by decide) ?_
                            refine r_icmp_neN 263 dX9_tries_256 (by decide) (by omega) (by omega) (fun h256 => ?_) (fun h256 => ?_)
                            · exact absurd rfl h256
                            · refine r_pc 259 rfl ?_
                              refine r_iconst (v := (nI 2)) dX9_tries_259 (by decide) ?_
                              refine r_goto 264 dX9_tries_260 (by decide) ?_
                              refine r_cVv dX9_tries_264 (m_turns hi8 (by decide) hS) lX9_176 rfl rfl rfl (by decide) ⟨Nat.le_refl _, Nat.le_refl _⟩ (Nat.le_of_ble_eq_true rfl) ?_
                              refine r_inc1 (ls' := [_, _, _, _, _, _]) dX9_tries_267 (by decide) rfl rfl ?_
                              refine r_goto 165 dX9_tries_270 (by decide) ?_
                              refine r_pc 165 rfl ?_
                              exact ih
                          · exact absurd h247 (by decide)
                        · exact absurd h200 (by decide)
                    · exact absurd h178 (by decide)
          refine r_iload_n dX9_tries_85 rfl ?_
          refine r_if_ne 96 dX9_tries_86 (by decide) (fun h86 => ?_) (fun h86 => ?_)
          · refine r_pc 96 rfl ?_
            refine r_iload_n dX9_tries_96 rfl ?_
            refine r_bipush (v := (nI 11)) dX9_tries_97 (by decide) ?_
            refine r_icmp_neN 120 dX9_tries_99 (by decide) (by omega) (by omega) (fun h99 => ?_) (fun h99 => ?_)
            · refine r_pc 120 rfl ?_
              refine r_iload_n dX9_tries_120 rfl ?_
              refine r_iconst (v := (nI 5)) dX9_tries_121 (by decide) ?_
              refine r_icmp_ltN 162 dX9_tries_122 (by decide) (by omega) (by omega) (fun h122 => ?_) (fun h122 => ?_)
              · refine r_pc 162 rfl ?_
                refine r_iconst (v := (nI 0)) dX9_tries_162 (by decide) ?_
                refine r_istore (ls' := [_, _, _, _, _, _]) dX9_tries_163 (by decide) rfl ?_
                refine r_pc 165 rfl ?_
                exact L 8 0 _ _ _ (by omega) (fun j h => absurd h (by omega)) (fun j h => absurd h (by omega)) (fun j h => absurd h (by omega)) (fun _ _ _ => rfl) (fun _ _ _ => rfl) (fun _ _ _ => rfl)
              · exact absurd h122 (by omega)
            · exact absurd h99 h11
          · exact absurd h86 hz
        · have e1 : PT c f w g = (pst c f g (mnt c f w) 8).2.1 := by simp only [PT, if_neg hno, if_neg h11, if_neg h4]
          have e2 : PU c f w g = (pst c f g (mnt c f w) 8).2.2.1 := by simp only [PU, if_neg hno, if_neg h11, if_neg h4]
          have e3 : PN c f w g = (pst c f g (mnt c f w) 8).2.2.2 := by simp only [PN, if_neg hno, if_neg h11, if_neg h4]
          have e4 : PY c f w g = (if (pst c f g (mnt c f w) 8).2.2.2 = 0 then 4 else 0) := by simp only [PY, if_neg hno, if_neg h11, if_neg h4]
          have hc8 := pst_cnt (c := c) (f := f) (g := g) (p := mnt c f w) 8
          by_cases h10 : g = 10
          · have hgs : ∀ j, j < 8 → gst c f g (mnt c f w) 8 j = goesB c (PT c f w g) j := fun j hj => by rw [e1]; subst h10; exact gst_goes hval 8 (Nat.le_refl _) j
            by_cases hn : (pst c f g (mnt c f w) 8).2.2.2 = 0
            · rw [if_pos hn] at e4
              have e6 : fx (PY c f w g) g = false := by simp [fx, e4]
              have e5 : POK c f w g = false := by simp [POK, okx, e4]
              have hz2 := gst_zero 8 hn
              have T := fun ru rm ry rp x4 x5 => T (PT c f w g) (gst c f g (mnt c f w) 8) ru rm ry rp 4 x4 x5 (PT_Tl hval) (by decide) e4 (fun j hj => by rw [wyM_f (fun j _ => by rw [hz2]) hj, PW, e6]; rfl) (by rw [e5]; rfl) (fun hk => by rw [e5] at hk; cases hk)
              refine r_iload_n dX9_tries_85 rfl ?_
              refine r_if_ne 96 dX9_tries_86 (by decide) (fun h86 => ?_) (fun h86 => ?_)
              · refine r_pc 96 rfl ?_
                refine r_iload_n dX9_tries_96 rfl ?_
                refine r_bipush (v := (nI 11)) dX9_tries_97 (by decide) ?_
                refine r_icmp_neN 120 dX9_tries_99 (by decide) (by omega) (by omega) (fun h99 => ?_) (fun h99 => ?_)
                · refine r_pc 120 rfl ?_
                  refine r_iload_n dX9_tries_120 rfl ?_
                  refine r_iconst (v := (nI 5)) dX9_tries_121 (by decide) ?_
                  refine r_icmp_ltN 162 dX9_tries_122 (by decide) (by omega) (by omega) (fun h122 => ?_) (fun h122 => ?_)
                  · exact absurd h122 (by omega)
                  · refine r_pc 125 rfl ?_
                    refine r_aload_n dX9_tries_125 rfl ?_
                    refine r_iload_n dX9_tries_126 rfl ?_
                    refine r_iload_n dX9_tries_127 rfl ?_
                    refine r_cVv dX9_tries_128 (m_pairs (by omega) (by omega) hS hs (fun _ _ => by decide)) lX9_203 rfl rfl rfl (by decide) ⟨Nat.le_refl _, Nat.le_refl _⟩ (Nat.le_of_ble_eq_true rfl) ?_
                    refine r_aload_n dX9_tries_131 rfl ?_
                    refine r_pc 132 rfl ?_
                    refine r_get dX9_tries_132 fX9_183 rfl rfl ?_
                    rw [hn]
                    refine r_if_ne 143 dX9_tries_135 (by decide) (fun h135 => ?_) (fun h135 => ?_)
                    · exact absurd rfl h135
                    · refine r_pc 138 rfl ?_
                      refine r_aload_n dX9_tries_138 rfl ?_
                      refine r_iconst (v := (nI 4)) dX9_tries_139 (by decide) ?_
                      refine r_put (w2 := (_, mW _ _ _ _ _ _ _ _ _ _ _ _ _ _ _ _ _ _ _ _ _ _ _ _ _ _ _ _ _ _ _ _ _)) dX9_tries_140 fX9_193 rfl rfl (Nat.le_of_ble_eq_true rfl) (fun _ => rfl) (fun _ => rfl) rfl ?_
                      refine r_iload_n dX9_tries_143 rfl ?_
                      refine r_bipush (v := (nI 10)) dX9_tries_144 (by decide) ?_
                      refine r_pc 146 rfl ?_
                      refine r_icmp_eqN 273 dX9_tries_146 (by decide) (by omega) (by omega) (fun h146 => ?_) (fun h146 => ?_)
                      · refine r_pc 273 rfl ?_
                        refine r_pc 273 rfl ?_
                        rw [e1] at T
                        exact T _ _ _ _ _ _
                      · exact absurd h10 h146
                · exact absurd h99 h11
              · exact absurd h86 hz
            · rw [if_neg hn] at e4
              have e6 : fx (PY c f w g) g = true := by rw [e4, h10]; rfl
              have T := fun rm ry x4 x5 => T (PT c f w g) (gst c f g (mnt c f w) 8) (fun j => nI (PU c f w g j)) rm ry (nI (PN c f w g)) 0 x4 x5 (PT_Tl hval) (by decide) e4 (fun j hj => by rw [wyM_eq hi_ hgs hj, PW, e6]; rfl) (by rw [smM_eq hi_ hgs 8 (Nat.le_refl _), POK, okx, e6, e4]; rfl) (fun _ => ⟨fun _ _ => rfl, fun _ _ => rfl, rfl⟩)
              refine r_iload_n dX9_tries_85 rfl ?_
              refine r_if_ne 96 dX9_tries_86 (by decide) (fun h86 => ?_) (fun h86 => ?_)
              · refine r_pc 96 rfl ?_
                refine r_iload_n dX9_tries_96 rfl ?_
                refine r_bipush (v := (nI 11)) dX9_tries_97 (by decide) ?_
                refine r_icmp_neN 120 dX9_tries_99 (by decide) (by omega) (by omega) (fun h99 => ?_) (fun h99 => ?_)
                · refine r_pc 120 rfl ?_
                  refine r_iload_n dX9_tries_120 rfl ?_
                  refine r_iconst (v := (nI 5)) dX9_tries_121 (by decide) ?_
                  refine r_icmp_ltN 162 dX9_tries_122 (by decide) (by omega) (by omega) (fun h122 => ?_) (fun h122 => ?_)
                  · exact absurd h122 (by omega)
                  · refine r_pc 125 rfl ?_
                    refine r_aload_n dX9_tries_125 rfl ?_
                    refine r_iload_n dX9_tries_126 rfl ?_
                    refine r_iload_n dX9_tries_127 rfl ?_
                    refine r_cVv dX9_tries_128 (m_pairs (by omega) (by omega) hS hs (fun _ _ => by decide)) lX9_203 rfl rfl rfl (by decide) ⟨Nat.le_refl _, Nat.le_refl _⟩ (Nat.le_of_ble_eq_true rfl) ?_
                    refine r_aload_n dX9_tries_131 rfl ?_
                    refine r_pc 132 rfl ?_
                    refine r_get dX9_tries_132 fX9_183 rfl rfl ?_
                    refine r_if_ne 143 dX9_tries_135 (by decide) (fun h135 => ?_) (fun h135 => ?_)
                    · refine r_pc 143 rfl ?_
                      refine r_iload_n dX9_tries_143 rfl ?_
                      refine r_bipush (v := (nI 10)) dX9_tries_144 (by decide) ?_
                      refine r_icmp_eqN 273 dX9_tries_146 (by decide) (by omega) (by omega) (fun h146 => ?_) (fun h146 => ?_)
                      · refine r_pc 273 rfl ?_
                        refine r_pc 273 rfl ?_
                        rw [e1, e2, e3] at T
                        exact T _ _ _ _
                      · exact absurd h10 h146
                    · exact absurd (nI_z (by omega) h135) hn
                · exact absurd h99 h11
              · exact absurd h86 hz
          · have e6 : ∀ y, fx y g = false := fun y => by simp [fx]; omega
            by_cases hn : (pst c f g (mnt c f w) 8).2.2.2 = 0
            · rw [if_pos hn] at e4
              have e5 : POK c f w g = false := by simp [POK, okx, e4]
              refine r_iload_n dX9_tries_85 rfl ?_
              refine r_if_ne 96 dX9_tries_86 (by decide) (fun h86 => ?_) (fun h86 => ?_)
              · refine r_pc 96 rfl ?_
                refine r_iload_n dX9_tries_96 rfl ?_
                refine r_bipush (v := (nI 11)) dX9_tries_97 (by decide) ?_
                refine r_icmp_neN 120 dX9_tries_99 (by decide) (by omega) (by omega) (fun h99 => ?_) (fun h99 => ?_)
                · refine r_pc 120 rfl ?_
                  refine r_iload_n dX9_tries_120 rfl ?_
                  refine r_iconst (v := (nI 5)) dX9_tries_121 (by decide) ?_
                  refine r_icmp_ltN 162 dX9_tries_122 (by decide) (by omega) (by omega) (fun h122 => ?_) (fun h122 => ?_)
                  · exact absurd h122 (by omega)
                  · refine r_pc 125 rfl ?_
                    refine r_aload_n dX9_tries_125 rfl ?_
                    refine r_iload_n dX9_tries_126 rfl ?_
                    refine r_iload_n dX9_tries_127 rfl ?_
                    refine r_cVv dX9_tries_128 (m_pairs (by omega) (by omega) hS hs (fun _ _ => by decide)) lX9_203 rfl rfl rfl (by decide) ⟨Nat.le_refl _, Nat.le_refl _⟩ (Nat.le_of_ble_eq_true rfl) ?_
                    refine r_aload_n dX9_tries_131 rfl ?_
                    refine r_pc 132 rfl ?_
                    refine r_get dX9_tries_132 fX9_183 rfl rfl ?_
                    rw [hn]
                    refine r_if_ne 143 dX9_tries_135 (by decide) (fun h135 => ?_) (fun h135 => ?_)
                    · exact absurd rfl h135
                    · refine r_pc 138 rfl ?_
                      refine r_aload_n dX9_tries_138 rfl ?_
                      refine r_iconst (v := (nI 4)) dX9_tries_139 (by decide) ?_
                      refine r_put (w2 := (_, mW _ _ _ _ _ _ _ _ _ _ _ _ _ _ _ _ _ _ _ _ _ _ _ _ _ _ _ _ _ _ _ _ _)) dX9_tries_140 fX9_193 rfl rfl (Nat.le_of_ble_eq_true rfl) (fun _ => rfl) (fun _ => rfl) rfl ?_
                      refine r_iload_n dX9_tries_143 rfl ?_
                      refine r_bipush (v := (nI 10)) dX9_tries_144 (by decide) ?_
                      refine r_pc 146 rfl ?_
                      refine r_icmp_eqN 273 dX9_tries_146 (by decide) (by omega) (by omega) (fun h146 => ?_) (fun h146 => ?_)
                      · exact absurd h146 h10
                      · refine r_pc 149 rfl ?_
                        refine r_aload_n dX9_tries_149 rfl ?_
                        refine r_get dX9_tries_150 fX9_193 rfl rfl ?_
                        refine r_if_ne 160 dX9_tries_153 (by decide) (fun h153 => ?_) (fun h153 => ?_)
                        · refine r_pc 160 rfl ?_
                          refine r_iconst (v := (nI 0)) dX9_tries_160 (by decide) ?_
                          exact r_zretP dX9_tries_161 rfl rfl ⟨by rw [e5]; rfl, _, _, _, _, _, by rw [e4, PW_0 (e6 _)], fun hk => by rw [e5] at hk; cases hk⟩
                        · exact absurd h153 (by decide)
                · exact absurd h99 h11
              · exact absurd h86 hz
            · rw [if_neg hn] at e4
              have e5 : POK c f w g = true := by rw [POK, okx, e6, e4]; rfl
              refine r_iload_n dX9_tries_85 rfl ?_
              refine r_if_ne 96 dX9_tries_86 (by decide) (fun h86 => ?_) (fun h86 => ?_)
              · refine r_pc 96 rfl ?_
                refine r_iload_n dX9_tries_96 rfl ?_
                refine r_bipush (v := (nI 11)) dX9_tries_97 (by decide) ?_
                refine r_icmp_neN 120 dX9_tries_99 (by decide) (by omega) (by omega) (fun h99 => ?_) (fun h99 => ?_)
                · refine r_pc 120 rfl ?_
                  refine r_iload_n dX9_tries_120 rfl ?_
                  refine r_iconst (v := (nI 5)) dX9_tries_121 (by decide) ?_
                  refine r_icmp_ltN 162 dX9_tries_122 (by decide) (by omega) (by omega) (fun h122 => ?_) (fun h122 => ?_)
                  · exact absurd h122 (by omega)
                  · refine r_pc 125 rfl ?_
                    refine r_aload_n dX9_tries_125 rfl ?_
                    refine r_iload_n dX9_tries_126 rfl ?_
                    refine r_iload_n dX9_tries_127 rfl ?_
                    refine r_cVv dX9_tries_128 (m_pairs (by omega) (by omega) hS hs (fun _ _ => by decide)) lX9_203 rfl rfl rfl (by decide) ⟨Nat.le_refl _, Nat.le_refl _⟩ (Nat.le_of_ble_eq_true rfl) ?_
                    refine r_aload_n dX9_tries_131 rfl ?_
                    refine r_pc 132 rfl ?_
                    refine r_get dX9_tries_132 fX9_183 rfl rfl ?_
                    refine r_if_ne 143 dX9_tries_135 (by decide) (fun h135 => ?_) (fun h135 => ?_)
                    · refine r_pc 143 rfl ?_
                      refine r_iload_n dX9_tries_143 rfl ?_
                      refine r_bipush (v := (nI 10)) dX9_tries_144 (by decide) ?_
                      refine r_icmp_eqN 273 dX9_tries_146 (by decide) (by omega) (by omega) (fun h146 => ?_) (fun h146 => ?_)
                      · exact absurd h146 h10
                      · refine r_pc 149 rfl ?_
                        refine r_aload_n dX9_tries_149 rfl ?_
                        refine r_get dX9_tries_150 fX9_193 rfl rfl ?_
                        refine r_if_ne 160 dX9_tries_153 (by decide) (fun h153 => ?_) (fun h153 => ?_)
                        · exact absurd rfl h153
                        · refine r_pc 156 rfl ?_
                          refine r_iconst (v := (nI 1)) dX9_tries_156 (by decide) ?_
                          refine r_goto 161 dX9_tries_157 (by decide) ?_
                          exact r_zretP dX9_tries_161 rfl rfl ⟨by rw [e5]; rfl, _, _, _, _, _, by rw [e4, PW_0 (e6 _)], fun _ => ⟨fun j _ => by rw [e1], fun j _ => by rw [e2], by rw [e3]⟩⟩
                    · exact absurd (nI_z (by omega) h135) hn
                · exact absurd h99 h11
              · exact absurd h86 hz
  have L : ∀ (m i : Nat) (rt ru rg rm ry : Nat → Int32) (x5 : Option Value), i + m = 8 → (∀ j, j < i → rt j = stN (some (c j))) → (∀ j, j < i → ru j = nI (f j)) → (∀ j, j < i → rg j = bI false) → (∀ j, j < i → rm j = -2) → (∀ j, j < i → ry j = nI 0) → Rp mX9_tries 6 0 0 w0 (TrP Q (fun rt ru rm rg rp => (Q, mW rc rf ro rt ru rm rg rp (nI (PY c f w g)) (fun j => nI (PW c f w g j)) rl rn ra rw rk rx rz rd rM rU rK rT rR rL rN rA rF rC rO rB rY rP rb).2) c f w g) 0 0 19 [some (.ref 100), some (.int (nI w)), some (.int (nI g)), some (.int (mbI (mnt c f w) 8)), some (.int (nI i)), x5] [] (Q, mW rc rf ro rt ru rm rg (nI 0) (nI 0) ry rl rn ra rw rk rx rz rd rM rU rK rT rR rL rN rA rF rC rO rB rY rP rb) := by
    intro m
    induction m with
    | zero =>
      intro i rt ru rg rm ry x5 hi h1 h2 h3 h4 h5
      have : i = 8 := by omega
      subst this
      refine r_weq _ (weq_M (rt' := fun j => stN (some (c j))) (ru' := fun j => nI (f j)) (rg' := fun _ => bI false) (rm' := fun _ => -2) (ry' := fun _ => nI 0) (fun _ _ => rfl) (fun _ _ => rfl) (fun _ _ => rfl) h1 h2 h4 h3 h5) ?_
      refine r_iload dX9_tries_19 rfl ?_
      refine r_bipush (v := (nI 8)) dX9_tries_21 (by decide) ?_
      refine r_icmp_geN 85 dX9_tries_23 (by decide) (by omega) (by omega) (fun h23 => ?_) (fun h23 => ?_)
      · refine r_pc 85 rfl ?_
        refine r_pc 85 rfl ?_
        exact K _
      · exact absurd h23 (by omega)
    | succ m ih =>
      intro i rt ru rg rm ry x5 hi h1 h2 h3 h4 h5
      have hi8 : i < 8 := by omega
      obtain ⟨q1, b1, q2, b2⟩ := hS i hi8
      refine r_iload dX9_tries_19 rfl ?_
      refine r_bipush (v := (nI 8)) dX9_tries_21 (by decide) ?_
      refine r_icmp_geN 85 dX9_tries_23 (by decide) (by omega) (by omega) (fun h23 => ?_) (fun h23 => ?_)
      · exact absurd h23 (by omega)
      · refine r_pc 26 rfl ?_
        refine r_aload_n dX9_tries_26 rfl ?_
        refine r_get dX9_tries_27 fX9_70 rfl rfl ?_
        refine r_iload dX9_tries_30 rfl ?_
        refine r_aload_n dX9_tries_32 rfl ?_
        refine r_get dX9_tries_33 fX9_60 rfl rfl ?_
        refine r_pc 36 rfl ?_
        refine r_iload dX9_tries_36 rfl ?_
        refine r_iald dX9_tries_38 rfl rfl hi8 (by decide) ?_
        refine r_topi _ q1 ?_
        refine r_iast (w2 := (_, mW _ _ _ _ _ _ _ _ _ _ _ _ _ _ _ _ _ _ _ _ _ _ _ _ _ _ _ _ _ _ _ _ _)) dX9_tries_39 rfl rfl hi8 (by decide) rfl ?_
        refine r_aload_n dX9_tries_40 rfl ?_
        refine r_get dX9_tries_41 fX9_73 rfl rfl ?_
        refine r_pc 44 rfl ?_
        refine r_iload dX9_tries_44 rfl ?_
        refine r_aload_n dX9_tries_46 rfl ?_
        refine r_get dX9_tries_47 fX9_64 rfl rfl ?_
        refine r_iload dX9_tries_50 rfl ?_
        refine r_iald dX9_tries_52 rfl rfl hi8 (by decide) ?_
        refine r_pc 53 rfl ?_
        refine r_topi _ q2 ?_
        refine r_iast (w2 := (_, mW _ _ _ _ _ _ _ _ _ _ _ _ _ _ _ _ _ _ _ _ _ _ _ _ _ _ _ _ _ _ _ _ _)) dX9_tries_53 rfl rfl hi8 (by decide) rfl ?_
        refine r_aload_n dX9_tries_54 rfl ?_
        refine r_get dX9_tries_55 fX9_79 rfl rfl ?_
        refine r_iload dX9_tries_58 rfl ?_
        refine r_iconst (v := (nI 0)) dX9_tries_60 (by decide) ?_
        refine r_pc 61 rfl ?_
        refine r_zast (w2 := (_, mW _ _ _ _ _ _ _ _ _ _ _ _ _ _ _ _ _ _ _ _ _ _ _ _ _ _ _ _ _ _ _ _ _)) dX9_tries_61 rfl rfl hi8 (by decide) rfl ?_
        refine r_aload_n dX9_tries_62 rfl ?_
        refine r_get dX9_tries_63 fX9_76 rfl rfl ?_
        refine r_iload dX9_tries_66 rfl ?_
        refine r_bipush (v := (-2)) dX9_tries_68 (by decide) ?_
        refine r_pc 70 rfl ?_
        refine r_iast (w2 := (_, mW _ _ _ _ _ _ _ _ _ _ _ _ _ _ _ _ _ _ _ _ _ _ _ _ _ _ _ _ _ _ _ _ _)) dX9_tries_70 rfl rfl hi8 (by decide) rfl ?_
        refine r_aload_n dX9_tries_71 rfl ?_
        refine r_get dX9_tries_72 fX9_83 rfl rfl ?_
        refine r_iload dX9_tries_75 rfl ?_
        refine r_iconst (v := (nI 0)) dX9_tries_77 (by decide) ?_
        refine r_pc 78 rfl ?_
        refine r_iast (w2 := (_, mW _ _ _ _ _ _ _ _ _ _ _ _ _ _ _ _ _ _ _ _ _ _ _ _ _ _ _ _ _ _ _ _ _)) dX9_tries_78 rfl rfl hi8 (by decide) rfl ?_
        refine r_inc1 (ls' := [_, _, _, _, _, _]) dX9_tries_79 (by decide) rfl rfl ?_
        refine r_goto 19 dX9_tries_82 (by decide) ?_
        refine r_pc 19 rfl ?_
        exact ih (i + 1) _ _ _ _ _ _ (by omega) (upd_lt (g := fun j => stN (some (c j))) h1 rfl) (upd_lt (g := fun j => nI (f j)) h2 rfl) (upd_lt (g := fun _ => bI false) h3 rfl) (upd_lt (g := fun _ => -2) h4 rfl) (upd_lt (g := fun _ => nI 0) h5 rfl)
  subst hw0
  refine r_aload_n dX9_tries_0 rfl ?_
  refine r_iload_n dX9_tries_1 rfl ?_
  refine r_cV dX9_tries_2 (m_meantBy hw hS hs) lX9_196 rfl rfl rfl (by decide) ⟨Nat.le_refl _, Nat.le_refl _⟩ (Nat.le_of_ble_eq_true rfl) ?_
  refine r_istore_n (ls' := [_, _, _, _, _, _]) dX9_tries_5 (by decide) rfl ?_
  refine r_aload_n dX9_tries_6 rfl ?_
  refine r_pc 7 rfl ?_
  refine r_iconst (v := (nI 0)) dX9_tries_7 (by decide) ?_
  refine r_put (w2 := (_, mW _ _ _ _ _ _ _ _ _ _ _ _ _ _ _ _ _ _ _ _ _ _ _ _ _ _ _ _ _ _ _ _ _)) dX9_tries_8 fX9_183 rfl rfl (Nat.le_of_ble_eq_true rfl) (fun _ => rfl) (fun _ => rfl) rfl ?_
  refine r_aload_n dX9_tries_11 rfl ?_
  refine r_iconst (v := (nI 0)) dX9_tries_12 (by decide) ?_
  refine r_put (w2 := (_, mW _ _ _ _ _ _ _ _ _ _ _ _ _ _ _ _ _ _ _ _ _ _ _ _ _ _ _ _ _ _ _ _ _)) dX9_tries_13 fX9_193 rfl rfl (Nat.le_of_ble_eq_true rfl) (fun _ => rfl) (fun _ => rfl) rfl ?_
  refine r_pc 16 rfl ?_
  refine r_iconst (v := (nI 0)) dX9_tries_16 (by decide) ?_
  refine r_istore (ls' := [_, _, _, _, _, _]) dX9_tries_17 (by decide) rfl ?_
  refine r_pc 19 rfl ?_
  exact L 8 0 _ _ _ _ _ _ (by omega) (fun j h => absurd h (by omega)) (fun j h => absurd h (by omega)) (fun j h => absurd h (by omega)) (fun j h => absurd h (by omega)) (fun j h => absurd h (by omega))
end R6
