/-- the length of a constant array -/
theorem r_clen {Z : ZT} {X : XT} {M : MI} {k mc ms : Nat} {w0 : WD} {nc ns pc : Nat} {ls : List (Option Value)} {st : List Value} {w : WD} {q : String × String × String × FieldType × List Int32} {v : Int32} (a : Nat) (hq : zt_arr[a]? = some q) (hd : decode M.2.1 pc = .ok (.arraylength, 1)) (hv : Int32.ofNat q.2.2.2.2.length = v) (K : Rq Z X M k mc ms w0 nc ns (pc + 1) ls (.int v :: st) w) : Rq Z X M k mc ms w0 nc ns pc ls (.ref (1000 + a) :: st) w := by
  intro p l e s m args below meth c D cA ad0 A hC hX ad H locs lsA hg hP hD hS hl
  have K := K p l e s m args below meth c D cA ad0 A hC hX ad H locs lsA hg hP hD hS hl
  obtain ⟨hx, hb, hml, hrt, hlk, hnm, hown, hts, hK, hA, hSt⟩ := hC
  have hT := (hSt.1 a q hq).2
  rw [← hg.2 _ (Or.inr (Nat.le_add_right _ _))] at hT
  exact va_tlen hx hb hT hS hv hd K
def pkI (a b : Nat → Int32) : Nat → Int64
  | 0 => 0
  | n + 1 => pkI a b n ||| ((a n + nI 16 * b n).toInt64 <<< ((nI 6 * nI n).toInt64 &&& 63))
theorem s_of (w : WD) (p1 p2 : Nat) (a b : Nat → Int32) (h1 : wg w p1 = some (.inl (0, 8, .inl a))) (h2 : wg w p2 = some (.inl (0, 8, .inl b))) : Sem mX3_of 2 0 0 [.ref p1, .ref p2] w (some (.long (pkI a b 8))) w := by
  refine sem_of (by decide) (Nat.le_of_ble_eq_true rfl) rfl ?_
  have L : ∀ (m i : Nat), i + m = 8 → Rn mX3_of 2 0 0 w (some (.long (pkI a b 8))) w 0 0 5 [some (.ref p1), some (.ref p2), some (.long (pkI a b i)), none, some (.int (nI i))] [] w := by
    intro m
    induction m with
    | zero =>
      intro i hi
      have : i = 8 := by omega
      subst this
      refine r_iload dX3_of_5 rfl ?_
      refine r_bipush (v := (nI 8)) dX3_of_7 (by decide) ?_
      refine r_icmp_geN 48 dX3_of_9 (by decide) (by omega) (by omega) (fun h9 => ?_) (fun h9 => ?_)
      · refine r_pc 48 rfl ?_
        refine r_lload_n dX3_of_48 rfl ?_
        exact r_lret dX3_of_49 rfl rfl rfl
      · exact absurd h9 (by omega)
    | succ m ih =>
      intro i hi
      have hi8 : i < 8 := by omega
      refine r_iload dX3_of_5 rfl ?_
      refine r_bipush (v := (nI 8)) dX3_of_7 (by decide) ?_
      refine r_icmp_geN 48 dX3_of_9 (by decide) (by omega) (by omega) (fun h9 => ?_) (fun h9 => ?_)
      · exact absurd h9 (by omega)
      · refine r_pc 12 rfl ?_
        refine r_iload dX3_of_12 rfl ?_
        refine r_aload_n dX3_of_14 rfl ?_
        refine r_alen (v := nI 8) dX3_of_15 h1 (by decide) rfl ?_
        refine r_icmp_geN 48 dX3_of_16 (by decide) (by omega) (by omega) (fun h16 => ?_) (fun h16 => ?_)
        · exact absurd h16 (by omega)
        · refine r_pc 19 rfl ?_
          refine r_iload dX3_of_19 rfl ?_
          refine r_aload_n dX3_of_21 rfl ?_
          refine r_alen (v := nI 8) dX3_of_22 h2 (by decide) rfl ?_
          refine r_icmp_geN 48 dX3_of_23 (by decide) (by omega) (by omega) (fun h23 => ?_) (fun h23 => ?_)
          · exact absurd h23 (by omega)
          · refine r_pc 26 rfl ?_
            refine r_lload_n dX3_of_26 rfl ?_
            refine r_iload dX3_of_27 rfl ?_
            refine r_aload_n dX3_of_29 rfl ?_
            refine r_iload dX3_of_30 rfl ?_
            refine r_iald dX3_of_32 h1 rfl hi8 (by decide) ?_
            refine r_pc 33 rfl ?_
            refine r_aload_n dX3_of_33 rfl ?_
            refine r_iload dX3_of_34 rfl ?_
            refine r_iald dX3_of_36 h2 rfl hi8 (by decide) ?_
            refine r_cS dX3_of_37 (s_bits _ _ _ _) lX3_11 rfl rfl (by decide) ⟨Nat.le_refl _, Nat.le_refl _⟩ (Nat.le_of_ble_eq_true rfl) ?_
            refine r_lor dX3_of_40 ?_
            refine r_pc 41 rfl ?_
            refine r_lstore_n (ls' := [_, _, _, _, _]) dX3_of_41 (by decide) rfl ?_
            refine r_inc1 (ls' := [_, _, _, _, _]) dX3_of_42 (by decide) rfl rfl ?_
            refine r_goto 5 dX3_of_45 (by decide) ?_
            refine r_pc 5 rfl ?_
            exact ih (i + 1) (by omega)
  refine r_lconst (v := 0) dX3_of_0 (by decide) ?_
  refine r_lstore_n (ls' := [_, _, _, _, _]) dX3_of_1 (by decide) rfl ?_
  refine r_iconst (v := (nI 0)) dX3_of_2 (by decide) ?_
  refine r_istore (ls' := [_, _, _, _, _]) dX3_of_3 (by decide) rfl ?_
  refine r_pc 5 rfl ?_
  exact L 8 0 (by omega)
def HC (i : Nat) : Nat := [1, 2, 7, 11, 14, 13, 8, 4].getD i 0
def HF (i : Nat) : Nat := [0, 0, 3, 3, 2, 2, 1, 1].getD i 0
theorem HC_I : ∀ i, i < 8 → ([1, 2, 7, 11, 14, 13, 8, 4] : List Int32).getD i 0 = nI (HC i) := by decide +kernel
theorem HF_I : ∀ i, i < 8 → ([0, 0, 3, 3, 2, 2, 1, 1] : List Int32).getD i 0 = nI (HF i) := by decide +kernel
theorem HC_lt : ∀ i, i < 8 → HC i < 16 := by decide +kernel
theorem HF_lt : ∀ i, i < 8 → HF i < 4 := by decide +kernel
theorem HC_inj : ∀ i, i < 8 → ∀ j, j < 8 → HC i = HC j → i = j := by decide +kernel
/-- HOME, packed by the class -/
def homeP : Int64 := pkI (fun j => nI (HC j)) (fun j => nI (HF j)) 8
theorem s_ofC (w : WD) : Sem mX3_of 2 0 0 [.ref 1000, .ref 1001] w (some (.long homeP)) w := by
  refine sem_of (by decide) (Nat.le_of_ble_eq_true rfl) rfl ?_
  have L : ∀ (m i : Nat), i + m = 8 → Rn mX3_of 2 0 0 w (some (.long homeP)) w 0 0 5 [some (.ref 1000), some (.ref 1001), some (.long (pkI (fun j => nI (HC j)) (fun j => nI (HF j)) i)), none, some (.int (nI i))] [] w := by
    intro m
    induction m with
    | zero =>
      intro i hi
      have : i = 8 := by omega
      subst this
      refine r_iload dX3_of_5 rfl ?_
      refine r_bipush (v := (nI 8)) dX3_of_7 (by decide) ?_
      refine r_icmp_geN 48 dX3_of_9 (by decide) (by omega) (by omega) (fun h9 => ?_) (fun h9 => ?_)
      · refine r_pc 48 rfl ?_
        refine r_lload_n dX3_of_48 rfl ?_
        exact r_lret dX3_of_49 rfl rfl rfl
      · exact absurd h9 (by omega)
    | succ m ih =>
      intro i hi
      have hi8 : i < 8 := by omega
      refine r_iload dX3_of_5 rfl ?_
      refine r_bipush (v := (nI 8)) dX3_of_7 (by decide) ?_
      refine r_icmp_geN 48 dX3_of_9 (by decide) (by omega) (by omega) (fun h9 => ?_) (fun h9 => ?_)
      · exact absurd h9 (by omega)
      · refine r_pc 12 rfl ?_
        refine r_iload dX3_of_12 rfl ?_
        refine r_aload_n dX3_of_14 rfl ?_
        refine r_clen (v := nI 8) 0 rfl dX3_of_15 (by decide) ?_
        refine r_icmp_geN 48 dX3_of_16 (by decide) (by omega) (by omega) (fun h16 => ?_) (fun h16 => ?_)
        · exact absurd h16 (by omega)
        · refine r_pc 19 rfl ?_
          refine r_iload dX3_of_19 rfl ?_
          refine r_aload_n dX3_of_21 rfl ?_
          refine r_clen (v := nI 8) 1 rfl dX3_of_22 (by decide) ?_
          refine r_icmp_geN 48 dX3_of_23 (by decide) (by omega) (by omega) (fun h23 => ?_) (fun h23 => ?_)
          · exact absurd h23 (by omega)
          · refine r_pc 26 rfl ?_
            refine r_lload_n dX3_of_26 rfl ?_
            refine r_iload dX3_of_27 rfl ?_
            refine r_aload_n dX3_of_29 rfl ?_
            refine r_iload dX3_of_30 rfl ?_
            refine r_cald (v := nI (HC i)) 0 rfl (Or.inl ⟨dX3_of_32, rfl⟩) rfl hi8 (by decide) (HC_I i hi8) ?_
            refine r_pc 33 rfl ?_
            refine r_aload_n dX3_of_33 rfl ?_
            refine r_iload dX3_of_34 rfl ?_
            refine r_cald (v := nI (HF i)) 1 rfl (Or.inl ⟨dX3_of_36, rfl⟩) rfl hi8 (by decide) (HF_I i hi8) ?_
            refine r_cS dX3_of_37 (s_bits _ _ _ _) lX3_11 rfl rfl (by decide) ⟨Nat.le_refl _, Nat.le_refl _⟩ (Nat.le_of_ble_eq_true rfl) ?_
            refine r_lor dX3_of_40 ?_
            refine r_pc 41 rfl ?_
            refine r_lstore_n (ls' := [_, _, _, _, _]) dX3_of_41 (by decide) rfl ?_
            refine r_inc1 (ls' := [_, _, _, _, _]) dX3_of_42 (by decide) rfl rfl ?_
            refine r_goto 5 dX3_of_45 (by decide) ?_
            refine r_pc 5 rfl ?_
            exact ih (i + 1) (by omega)
  refine r_lconst (v := 0) dX3_of_0 (by decide) ?_
  refine r_lstore_n (ls' := [_, _, _, _, _]) dX3_of_1 (by decide) rfl ?_
  refine r_iconst (v := (nI 0)) dX3_of_2 (by decide) ?_
  refine r_istore (ls' := [_, _, _, _, _]) dX3_of_3 (by decide) rfl ?_
  refine r_pc 5 rfl ?_
  exact L 8 0 (by omega)
theorem s_atFirst (w : WD) : Sem mX3_atFirst 3 0 0 [] w (some (.long homeP)) w := by
  refine sem_of (by decide) (Nat.le_of_ble_eq_true rfl) rfl ?_
  refine r_gets (a := 0) dX3_atFirst_0 rfl sX3_15 ?_
  refine r_gets (a := 1) dX3_atFirst_3 rfl sX3_19 ?_
  refine r_cS dX3_atFirst_6 (s_ofC _) lX3_22 rfl rfl (by decide) ⟨Nat.le_refl _, Nat.le_refl _⟩ (Nat.le_of_ble_eq_true rfl) ?_
  exact r_lret dX3_atFirst_9 rfl rfl rfl
section F4
variable {x0 x1 x2 x3 : AE} {fc ff fs ft fu fw : Nat → Int32} {fy fd : Int32} {po : List AE}
variable {R : List AE} {c f : Nat → Nat}
theorem s_packed : Sem mX2_packed 3 0 0 [.ref 4] (cF x0 x1 x2 x3 fc ff fs ft fu fw fy fd po, R) (some (.long (pkI fc ff 8))) (cF x0 x1 x2 x3 fc ff fs ft fu fw fy fd po, R) := by
  refine sem_of (by decide) (Nat.le_of_ble_eq_true rfl) rfl ?_
  refine r_aload_n dX2_packed_0 rfl ?_
  refine r_get dX2_packed_1 fX2_9 rfl rfl ?_
  refine r_aload_n dX2_packed_4 rfl ?_
  refine r_get dX2_packed_5 fX2_15 rfl rfl ?_
  refine r_cS dX2_packed_8 (s_of _ 5 6 fc ff rfl rfl) lX2_46 rfl rfl (by decide) ⟨Nat.le_refl _, Nat.le_refl _⟩ (Nat.le_of_ble_eq_true rfl) ?_
  refine r_pc 11 rfl ?_
  exact r_lret dX2_packed_11 rfl rfl rfl
theorem s_planned : Sem mX2_planned 3 0 0 [.ref 4] (cF x0 x1 x2 x3 fc ff fs ft fu fw fy fd po, R) (some (.long (pkI ft fu 8))) (cF x0 x1 x2 x3 fc ff fs ft fu fw fy fd po, R) := by
  refine sem_of (by decide) (Nat.le_of_ble_eq_true rfl) rfl ?_
  refine r_aload_n dX2_planned_0 rfl ?_
  refine r_get dX2_planned_1 fX2_21 rfl rfl ?_
  refine r_aload_n dX2_planned_4 rfl ?_
  refine r_get dX2_planned_5 fX2_24 rfl rfl ?_
  refine r_cS dX2_planned_8 (s_of _ 8 9 ft fu rfl rfl) lX2_46 rfl rfl (by decide) ⟨Nat.le_refl _, Nat.le_refl _⟩ (Nat.le_of_ble_eq_true rfl) ?_
  refine r_pc 11 rfl ?_
  exact r_lret dX2_planned_11 rfl rfl rfl
def ringB (c : Nat → Nat) : Nat → Bool
  | 0 => true
  | n + 1 => ringB c n && (who c 8 (HC n)).isSome
theorem ringB_ge {c : Nat → Nat} {i : Nat} (h : (who c 8 (HC i)).isSome = false) : ∀ m, ringB c (i + 1 + m) = false
  | 0 => by simp [ringB, h]
  | m + 1 => by
    have := ringB_ge h m
    show (ringB c (i + 1 + m) && _) = false
    rw [this]
    rfl
theorem s_isRing (hs : Sd fs c) : Sem mX2_isRing 1 0 0 [.ref 4] (cF x0 x1 x2 x3 fc ff fs ft fu fw fy fd po, R) (some (.int (bI (ringB c 8)))) (cF x0 x1 x2 x3 fc ff fs ft fu fw fy fd po, R) := by
  refine sem_of (by decide) (Nat.le_of_ble_eq_true rfl) rfl ?_
  have L : ∀ (m i : Nat), i + m = 8 → ringB c i = true → Rn mX2_isRing 1 0 0 (cF x0 x1 x2 x3 fc ff fs ft fu fw fy fd po, R) (some (.int (bI (ringB c 8)))) (cF x0 x1 x2 x3 fc ff fs ft fu fw fy fd po, R) 0 0 2 [some (.ref 4), some (.int (nI i))] [] (cF x0 x1 x2 x3 fc ff fs ft fu fw fy fd po, R) := by
    intro m
    induction m with
    | zero =>
      intro i hi hr
      have : i = 8 := by omega
      subst this
      refine r_iload_n dX2_isRing_2 rfl ?_
      refine r_bipush (v := (nI 8)) dX2_isRing_3 (by decide) ?_
      refine r_icmp_geN 30 dX2_isRing_5 (by decide) (by omega) (by omega) (fun h5 => ?_) (fun h5 => ?_)
      · refine r_pc 30 rfl ?_
        refine r_iconst (v := (nI 1)) dX2_isRing_30 (by decide) ?_
        exact r_zret dX2_isRing_31 rfl rfl (by rw [hr]; rfl) rfl
      · exact absurd h5 (by omega)
    | succ m ih =>
      intro i hi hr
      have hi8 : i < 8 := by omega
      refine r_iload_n dX2_isRing_2 rfl ?_
      refine r_bipush (v := (nI 8)) dX2_isRing_3 (by decide) ?_
      refine r_icmp_geN 30 dX2_isRing_5 (by decide) (by omega) (by omega) (fun h5 => ?_) (fun h5 => ?_)
      · exact absurd h5 (by omega)
      · refine r_pc 8 rfl ?_
        refine r_aload_n dX2_isRing_8 rfl ?_
        refine r_get dX2_isRing_9 fX2_18 rfl rfl ?_
        refine r_gets (a := 0) dX2_isRing_12 rfl sX2_75 ?_
        refine r_iload_n dX2_isRing_15 rfl ?_
        refine r_cald (v := nI (HC i)) 0 rfl (Or.inl ⟨dX2_isRing_16, rfl⟩) rfl hi8 (by decide) (HC_I i hi8) ?_
        refine r_pc 17 rfl ?_
        refine r_iald dX2_isRing_17 rfl rfl (HC_lt i hi8) (by decide) ?_
        refine r_topi _ (hs _ (HC_lt i hi8)) ?_
        refine r_iconst (v := (-1)) dX2_isRing_18 (by decide) ?_
        refine r_icmp_ne 24 dX2_isRing_19 (by decide) (fun h19 => ?_) (fun h19 => ?_)
        · have hn : (who c 8 (HC i)).isSome = true := by cases hw : who c 8 (HC i) with | none => rw [hw] at h19; exact absurd rfl h19 | some x => rfl
          refine r_pc 24 rfl ?_
          refine r_inc1 (ls' := [_, _]) dX2_isRing_24 (by decide) rfl rfl ?_
          refine r_goto 2 dX2_isRing_27 (by decide) ?_
          refine r_pc 2 rfl ?_
          exact ih (i + 1) (by omega) (by show (ringB c i && _) = true; rw [hr, hn]; rfl)
        · have hn : who c 8 (HC i) = none := (stI_eq (fun x hx => by have := who_lt hx; omega)).mp h19
          have hf := ringB_ge (c := c) (i := i) (by rw [hn]; rfl) m
          rw [show i + 1 + m = 8 by omega] at hf
          refine r_pc 22 rfl ?_
          refine r_iconst (v := (nI 0)) dX2_isRing_22 (by decide) ?_
          exact r_zret dX2_isRing_23 rfl rfl (by rw [hf]; rfl) rfl
  refine r_iconst (v := (nI 0)) dX2_isRing_0 (by decide) ?_
  refine r_istore_n (ls' := [_, _]) dX2_isRing_1 (by decide) rfl ?_
  refine r_pc 2 rfl ?_
  exact L 8 0 (by omega) rfl
def eT (c f : Nat → Nat) (p : Nat → Bool) (g d : Nat) : Option Nat := match p d with
  | false => some (c d)
  | true => match g with
    | 0 => nb (c d) (f d)
    | 1 => nb (c d) ((f d + 2) % 4)
    | _ => some (c d)
def eU (f : Nat → Nat) (p : Nat → Bool) (g d : Nat) : Nat := match p d with
  | false => f d
  | true => match g with
    | 0 => f d
    | 1 => f d
    | 2 => (f d + 3) % 4
    | 3 => (f d + 1) % 4
    | _ => (f d + 2) % 4
def cnt (p : Nat → Bool) : Nat → Nat
  | 0 => 0
  | n + 1 => match p n with
    | true => cnt p n + 1
    | false => cnt p n
theorem isIn_mb (p : Nat → Bool) {d : Nat} (hd : d < 8) : (if nI d = -1 then nI 0 else if mbI p 8 >>> (nI d &&& 31) &&& nI 1 = nI 1 then nI 1 else nI 0) = bI (p d) := by
  rw [if_neg (nI_m1 (by omega))]
  cases h : p d with
  | true => rw [if_pos ((mb_bit p hd).mpr h)]; rfl
  | false => rw [if_neg (fun q => by rw [(mb_bit p hd).mp q] at h; cases h)]; rfl
theorem s_isInB (w : WD) (p : Nat → Bool) {d : Nat} (hd : d < 8) : Sem mX2_isIn 1 0 0 [.int (nI d), .int (mbI p 8)] w (some (.int (bI (p d)))) w := by
  have := s_isIn w (nI d) (mbI p 8)
  rw [isIn_mb p hd] at this
  exact this
theorem s_nb (w : WD) {c f : Nat} (hc : c < 16) (hf : f < 8) : Sem mX2_neighbour 1 0 0 [.int (nI c), .int (nI f)] w (some (.int (stI (nb c (f % 4))))) w := by
  rw [← nbI_nb0 c hc _ (Nat.mod_lt f (by decide))]
  exact s_neighbour w c f hc hf
theorem s_planEach {p : Nat → Bool} {g : Nat} (hg : g < 5) (hS : Sq fc ff c f) (hft : ∀ j, j < 8 → ft j = nI (c j)) (hfu : ∀ j, j < 8 → fu j = nI (f j)) (hfd : fd = nI 0) : Sem mX2_planEach 3 0 0 [.ref 4, .int (mbI p 8), .int (nI g)] (cF x0 x1 x2 x3 fc ff fs ft fu fw fy fd po, R) none (cF x0 x1 x2 x3 fc ff fs (fun j => stI (eT c f p g j)) (fun j => nI (eU f p g j)) fw fy (nI (cnt p 8)) po, R) := by
  refine sem_of (by decide) (Nat.le_of_ble_eq_true rfl) rfl ?_
  generalize hw0 : (cF x0 x1 x2 x3 fc ff fs ft fu fw fy fd po, R) = w0
  have L : ∀ (m i : Nat) (ft fu : Nat → Int32), i + m = 8 → (∀ j, j < i → ft j = stI (eT c f p g j)) → (∀ j, j < i → fu j = nI (eU f p g j)) → (∀ j, i ≤ j → j < 8 → ft j = nI (c j)) → (∀ j, i ≤ j → j < 8 → fu j = nI (f j)) → Rn mX2_planEach 3 0 0 w0 none (cF x0 x1 x2 x3 fc ff fs (fun j => stI (eT c f p g j)) (fun j => nI (eU f p g j)) fw fy (nI (cnt p 8)) po, R) 0 0 2 [some (.ref 4), some (.int (mbI p 8)), some (.int (nI g)), some (.int (nI i))] [] (cF x0 x1 x2 x3 fc ff fs ft fu fw fy (nI (cnt p i)) po, R) := by
    intro m
    induction m with
    | zero =>
      intro i ft fu hi h1 h2 h3 h4
      have : i = 8 := by omega
      subst this
      refine r_weq _ (weq_F (fun _ _ => rfl) (fun _ _ => rfl) (fun _ _ => rfl) h1 h2 (fun _ _ => rfl)) ?_
      refine r_iload_n dX2_planEach_2 rfl ?_
      refine r_bipush (v := (nI 8)) dX2_planEach_3 (by decide) ?_
      refine r_icmp_geN 140 dX2_planEach_5 (by decide) (by omega) (by omega) (fun h5 => ?_) (fun h5 => ?_)
      · refine r_pc 140 rfl ?_
        exact r_vret dX2_planEach_140 rfl rfl rfl
      · exact absurd h5 (by omega)
    | succ m ih =>
      intro i ft fu hi h1 h2 h3 h4
      have hi8 : i < 8 := by omega
      obtain ⟨e1, b1, e2, b2⟩ := hS i hi8
      have ih := fun (ft' fu' : Nat → Int32) (a1 : ft' i = stI (eT c f p g i)) (a2 : fu' i = nI (eU f p g i)) (a3 : ∀ j, j ≠ i → ft' j = ft j) (a4 : ∀ j, j ≠ i → fu' j = fu j) => ih (i + 1) ft' fu' (by omega) (fun j hj => by by_cases e : j = i; (subst e; exact a1); (rw [a3 j e]; exact h1 j (by omega))) (fun j hj => by by_cases e : j = i; (subst e; exact a2); (rw [a4 j e]; exact h2 j (by omega))) (fun j hj hj8 => by rw [a3 j (by omega)]; exact h3 j (by omega) hj8) (fun j hj hj8 => by rw [a4 j (by omega)]; exact h4 j (by omega) hj8)
      have f1 := h3 i (Nat.le_refl _) hi8
      have f2 := h4 i (Nat.le_refl _) hi8
      unfold cnt at ih
      unfold eT eU at ih
      cases hm : p i with
      | false =>
        rw [hm] at ih
        refine r_iload_n dX2_planEach_2 rfl ?_
        refine r_bipush (v := (nI 8)) dX2_planEach_3 (by decide) ?_
        refine r_icmp_geN 140 dX2_planEach_5 (by decide) (by omega) (by omega) (fun h5 => ?_) (fun h5 => ?_)
        · exact absurd h5 (by omega)
        · refine r_pc 8 rfl ?_
          refine r_iload_n dX2_planEach_8 rfl ?_
          refine r_iload_n dX2_planEach_9 rfl ?_
          refine r_cS dX2_planEach_10 (s_isInB _ p hi8) lX2_81 rfl rfl (by decide) ⟨Nat.le_refl _, Nat.le_refl _⟩ (Nat.le_of_ble_eq_true rfl) ?_
          rw [hm]
          refine r_if_ne 19 dX2_planEach_13 (by decide) (fun h13 => ?_) (fun h13 => ?_)
          · exact absurd rfl h13
          · refine r_pc 16 rfl ?_
            refine r_goto 134 dX2_planEach_16 (by decide) ?_
            refine r_inc1 (ls' := [_, _, _, _]) dX2_planEach_134 (by decide) rfl rfl ?_
            refine r_goto 2 dX2_planEach_137 (by decide) ?_
            refine r_pc 2 rfl ?_
            exact ih _ _ f1 f2 (fun _ _ => rfl) (fun _ _ => rfl)
      | true =>
        rw [hm] at ih
        match g, hg with
        | 0, _ =>
          refine r_iload_n dX2_planEach_2 rfl ?_
          refine r_bipush (v := (nI 8)) dX2_planEach_3 (by decide) ?_
          refine r_icmp_geN 140 dX2_planEach_5 (by decide) (by omega) (by omega) (fun h5 => ?_) (fun h5 => ?_)
          · exact absurd h5 (by omega)
          · refine r_pc 8 rfl ?_
            refine r_iload_n dX2_planEach_8 rfl ?_
            refine r_iload_n dX2_planEach_9 rfl ?_
            refine r_cS dX2_planEach_10 (s_isInB _ p hi8) lX2_81 rfl rfl (by decide) ⟨Nat.le_refl _, Nat.le_refl _⟩ (Nat.le_of_ble_eq_true rfl) ?_
            rw [hm]
            refine r_if_ne 19 dX2_planEach_13 (by decide) (fun h13 => ?_) (fun h13 => ?_)
            · refine r_pc 19 rfl ?_
              refine r_aload_n dX2_planEach_19 rfl ?_
              refine r_dup dX2_planEach_20 rfl ?_
              refine r_get dX2_planEach_21 fX2_34 rfl rfl ?_
              refine r_iconst (v := (nI 1)) dX2_planEach_24 (by decide) ?_
              refine r_iaddN dX2_planEach_25 ?_
              refine r_pc 26 rfl ?_
              refine r_put (w2 := (cF _ _ _ _ _ _ _ _ _ _ _ _ _, _)) dX2_planEach_26 fX2_34 rfl rfl (Nat.le_of_ble_eq_true rfl) (fun _ => rfl) (fun _ => rfl) rfl ?_
              refine r_iload_n dX2_planEach_29 rfl ?_
              refine r_tabIn 60 dX2_planEach_30 (by decide) (by decide) rfl (by decide) ?_
              refine r_aload_n dX2_planEach_60 rfl ?_
              refine r_get dX2_planEach_61 fX2_21 rfl rfl ?_
              refine r_pc 64 rfl ?_
              refine r_iload_n dX2_planEach_64 rfl ?_
              refine r_aload_n dX2_planEach_65 rfl ?_
              refine r_get dX2_planEach_66 fX2_9 rfl rfl ?_
              refine r_iload_n dX2_planEach_69 rfl ?_
              refine r_iald dX2_planEach_70 rfl rfl hi8 (by decide) ?_
              refine r_pc 71 rfl ?_
              refine r_topi _ e1 ?_
              refine r_aload_n dX2_planEach_71 rfl ?_
              refine r_get dX2_planEach_72 fX2_15 rfl rfl ?_
              refine r_iload_n dX2_planEach_75 rfl ?_
              refine r_iald dX2_planEach_76 rfl rfl hi8 (by decide) ?_
              refine r_topi _ e2 ?_
              refine r_cS dX2_planEach_77 (s_nb _ b1 (by omega)) lX2_85 rfl rfl (by decide) ⟨Nat.le_refl _, Nat.le_refl _⟩ (Nat.le_of_ble_eq_true rfl) ?_
              refine r_pc 80 rfl ?_
              refine r_iast (w2 := (cF _ _ _ _ _ _ _ _ _ _ _ _ _, _)) dX2_planEach_80 rfl rfl hi8 (by decide) rfl ?_
              refine r_goto 134 dX2_planEach_81 (by decide) ?_
              refine r_inc1 (ls' := [_, _, _, _]) dX2_planEach_134 (by decide) rfl rfl ?_
              refine r_goto 2 dX2_planEach_137 (by decide) ?_
              refine r_pc 2 rfl ?_
              exact ih _ _ (by rw [pk_us, Nat.mod_eq_of_lt b2]; rfl) f2 (fun j hj => pk_un hj) (fun _ _ => rfl)
            · exact absurd h13 (by decide)
        | 1, _ =>
          refine r_iload_n dX2_planEach_2 rfl ?_
          refine r_bipush (v := (nI 8)) dX2_planEach_3 (by decide) ?_
          refine r_icmp_geN 140 dX2_planEach_5 (by decide) (by omega) (by omega) (fun h5 => ?_) (fun h5 => ?_)
          · exact absurd h5 (by omega)
          · refine r_pc 8 rfl ?_
            refine r_iload_n dX2_planEach_8 rfl ?_
            refine r_iload_n dX2_planEach_9 rfl ?_
            refine r_cS dX2_planEach_10 (s_isInB _ p hi8) lX2_81 rfl rfl (by decide) ⟨Nat.le_refl _, Nat.le_refl _⟩ (Nat.le_of_ble_eq_true rfl) ?_
            rw [hm]
            refine r_if_ne 19 dX2_planEach_13 (by decide) (fun h13 => ?_) (fun h13 => ?_)
            · refine r_pc 19 rfl ?_
              refine r_aload_n dX2_planEach_19 rfl ?_
              refine r_dup dX2_planEach_20 rfl ?_
              refine r_get dX2_planEach_21 fX2_34 rfl rfl ?_
              refine r_iconst (v := (nI 1)) dX2_planEach_24 (by decide) ?_
              refine r_iaddN dX2_planEach_25 ?_
              refine r_pc 26 rfl ?_
              refine r_put (w2 := (cF _ _ _ _ _ _ _ _ _ _ _ _ _, _)) dX2_planEach_26 fX2_34 rfl rfl (Nat.le_of_ble_eq_true rfl) (fun _ => rfl) (fun _ => rfl) rfl ?_
              refine r_iload_n dX2_planEach_29 rfl ?_
              refine r_tabIn 84 dX2_planEach_30 (by decide) (by decide) rfl (by decide) ?_
              refine r_aload_n dX2_planEach_84 rfl ?_
              refine r_get dX2_planEach_85 fX2_21 rfl rfl ?_
              refine r_pc 88 rfl ?_
              refine r_iload_n dX2_planEach_88 rfl ?_
              refine r_aload_n dX2_planEach_89 rfl ?_
              refine r_get dX2_planEach_90 fX2_9 rfl rfl ?_
              refine r_iload_n dX2_planEach_93 rfl ?_
              refine r_iald dX2_planEach_94 rfl rfl hi8 (by decide) ?_
              refine r_pc 95 rfl ?_
              refine r_topi _ e1 ?_
              refine r_aload_n dX2_planEach_95 rfl ?_
              refine r_get dX2_planEach_96 fX2_15 rfl rfl ?_
              refine r_iload_n dX2_planEach_99 rfl ?_
              refine r_iald dX2_planEach_100 rfl rfl hi8 (by decide) ?_
              refine r_topi _ e2 ?_
              refine r_iconst (v := (nI 2)) dX2_planEach_101 (by decide) ?_
              refine r_pc 102 rfl ?_
              refine r_iaddN dX2_planEach_102 ?_
              refine r_cS dX2_planEach_103 (s_nb _ b1 (by omega)) lX2_85 rfl rfl (by decide) ⟨Nat.le_refl _, Nat.le_refl _⟩ (Nat.le_of_ble_eq_true rfl) ?_
              refine r_iast (w2 := (cF _ _ _ _ _ _ _ _ _ _ _ _ _, _)) dX2_planEach_106 rfl rfl hi8 (by decide) rfl ?_
              refine r_goto 134 dX2_planEach_107 (by decide) ?_
              refine r_inc1 (ls' := [_, _, _, _]) dX2_planEach_134 (by decide) rfl rfl ?_
              refine r_pc 137 rfl ?_
              refine r_goto 2 dX2_planEach_137 (by decide) ?_
              refine r_pc 2 rfl ?_
              exact ih _ _ pk_us f2 (fun j hj => pk_un hj) (fun _ _ => rfl)
            · exact absurd h13 (by decide)
        | 2, _ =>
          refine r_iload_n dX2_planEach_2 rfl ?_
          refine r_bipush (v := (nI 8)) dX2_planEach_3 (by decide) ?_
          refine r_icmp_geN 140 dX2_planEach_5 (by decide) (by omega) (by omega) (fun h5 => ?_) (fun h5 => ?_)
          · exact absurd h5 (by omega)
          · refine r_pc 8 rfl ?_
            refine r_iload_n dX2_planEach_8 rfl ?_
            refine r_iload_n dX2_planEach_9 rfl ?_
            refine r_cS dX2_planEach_10 (s_isInB _ p hi8) lX2_81 rfl rfl (by decide) ⟨Nat.le_refl _, Nat.le_refl _⟩ (Nat.le_of_ble_eq_true rfl) ?_
            rw [hm]
            refine r_if_ne 19 dX2_planEach_13 (by decide) (fun h13 => ?_) (fun h13 => ?_)
            · refine r_pc 19 rfl ?_
              refine r_aload_n dX2_planEach_19 rfl ?_
              refine r_dup dX2_planEach_20 rfl ?_
              refine r_get dX2_planEach_21 fX2_34 rfl rfl ?_
              refine r_iconst (v := (nI 1)) dX2_planEach_24 (by decide) ?_
              refine r_iaddN dX2_planEach_25 ?_
              refine r_pc 26 rfl ?_
              refine r_put (w2 := (cF _ _ _ _ _ _ _ _ _ _ _ _ _, _)) dX2_planEach_26 fX2_34 rfl rfl (Nat.le_of_ble_eq_true rfl) (fun _ => rfl) (fun _ => rfl) rfl ?_
              refine r_iload_n dX2_planEach_29 rfl ?_
              refine r_tabIn 110 dX2_planEach_30 (by decide) (by decide) rfl (by decide) ?_
              refine r_aload_n dX2_planEach_110 rfl ?_
              refine r_iload_n dX2_planEach_111 rfl ?_
              refine r_pc 112 rfl ?_
              refine r_iconst (v := (nI 3)) dX2_planEach_112 (by decide) ?_
              refine r_cVv dX2_planEach_113 (s_turn hi8 (by decide) hS) lX2_89 rfl rfl rfl (by decide) ⟨Nat.le_refl _, Nat.le_refl _⟩ (Nat.le_of_ble_eq_true rfl) ?_
              refine r_goto 134 dX2_planEach_116 (by decide) ?_
              refine r_inc1 (ls' := [_, _, _, _]) dX2_planEach_134 (by decide) rfl rfl ?_
              refine r_goto 2 dX2_planEach_137 (by decide) ?_
              refine r_pc 2 rfl ?_
              exact ih _ _ f1 pk_us (fun _ _ => rfl) (fun j hj => pk_un hj)
            · exact absurd h13 (by decide)
        | 3, _ =>
          refine r_iload_n dX2_planEach_2 rfl ?_
          refine r_bipush (v := (nI 8)) dX2_planEach_3 (by decide) ?_
          refine r_icmp_geN 140 dX2_planEach_5 (by decide) (by omega) (by omega) (fun h5 => ?_) (fun h5 => ?_)
          · exact absurd h5 (by omega)
          · refine r_pc 8 rfl ?_
            refine r_iload_n dX2_planEach_8 rfl ?_
            refine r_iload_n dX2_planEach_9 rfl ?_
            refine r_cS dX2_planEach_10 (s_isInB _ p hi8) lX2_81 rfl rfl (by decide) ⟨Nat.le_refl _, Nat.le_refl _⟩ (Nat.le_of_ble_eq_true rfl) ?_
            rw [hm]
            refine r_if_ne 19 dX2_planEach_13 (by decide) (fun h13 => ?_) (fun h13 => ?_)
            · refine r_pc 19 rfl ?_
              refine r_aload_n dX2_planEach_19 rfl ?_
              refine r_dup dX2_planEach_20 rfl ?_
              refine r_get dX2_planEach_21 fX2_34 rfl rfl ?_
              refine r_iconst (v := (nI 1)) dX2_planEach_24 (by decide) ?_
              refine r_iaddN dX2_planEach_25 ?_
              refine r_pc 26 rfl ?_
              refine r_put (w2 := (cF _ _ _ _ _ _ _ _ _ _ _ _ _, _)) dX2_planEach_26 fX2_34 rfl rfl (Nat.le_of_ble_eq_true rfl) (fun _ => rfl) (fun _ => rfl) rfl ?_
              refine r_iload_n dX2_planEach_29 rfl ?_
              refine r_tabIn 119 dX2_planEach_30 (by decide) (by decide) rfl (by decide) ?_
              refine r_aload_n dX2_planEach_119 rfl ?_
              refine r_iload_n dX2_planEach_120 rfl ?_
              refine r_pc 121 rfl ?_
              refine r_iconst (v := (nI 1)) dX2_planEach_121 (by decide) ?_
              refine r_cVv dX2_planEach_122 (s_turn hi8 (by decide) hS) lX2_89 rfl rfl rfl (by decide) ⟨Nat.le_refl _, Nat.le_refl _⟩ (Nat.le_of_ble_eq_true rfl) ?_
              refine r_goto 134 dX2_planEach_125 (by decide) ?_
              refine r_inc1 (ls' := [_, _, _, _]) dX2_planEach_134 (by decide) rfl rfl ?_
              refine r_goto 2 dX2_planEach_137 (by decide) ?_
              refine r_pc 2 rfl ?_
              exact ih _ _ f1 pk_us (fun _ _ => rfl) (fun j hj => pk_un hj)
            · exact absurd h13 (by decide)
        | 4, _ =>
          refine r_iload_n dX2_planEach_2 rfl ?_
          refine r_bipush (v := (nI 8)) dX2_planEach_3 (by decide) ?_
          refine r_icmp_geN 140 dX2_planEach_5 (by decide) (by omega) (by omega) (fun h5 => ?_) (fun h5 => ?_)
          · exact absurd h5 (by omega)
          · refine r_pc 8 rfl ?_
            refine r_iload_n dX2_planEach_8 rfl ?_
            refine r_iload_n dX2_planEach_9 rfl ?_
            refine r_cS dX2_planEach_10 (s_isInB _ p hi8) lX2_81 rfl rfl (by decide) ⟨Nat.le_refl _, Nat.le_refl _⟩ (Nat.le_of_ble_eq_true rfl) ?_
            rw [hm]
            refine r_if_ne 19 dX2_planEach_13 (by decide) (fun h13 => ?_) (fun h13 => ?_)
            · refine r_pc 19 rfl ?_
              refine r_aload_n dX2_planEach_19 rfl ?_
              refine r_dup dX2_planEach_20 rfl ?_
              refine r_get dX2_planEach_21 fX2_34 rfl rfl ?_
              refine r_iconst (v := (nI 1)) dX2_planEach_24 (by decide) ?_
              refine r_iaddN dX2_planEach_25 ?_
              refine r_pc 26 rfl ?_
              refine r_put (w2 := (cF _ _ _ _ _ _ _ _ _ _ _ _ _, _)) dX2_planEach_26 fX2_34 rfl rfl (Nat.le_of_ble_eq_true rfl) (fun _ => rfl) (fun _ => rfl) rfl ?_
              refine r_iload_n dX2_planEach_29 rfl ?_
              refine r_tabOut 128 dX2_planEach_30 (by decide) (by decide) ?_
              refine r_aload_n dX2_planEach_128 rfl ?_
              refine r_iload_n dX2_planEach_129 rfl ?_
              refine r_pc 130 rfl ?_
              refine r_iconst (v := (nI 2)) dX2_planEach_130 (by decide) ?_
              refine r_cVv dX2_planEach_131 (s_turn hi8 (by decide) hS) lX2_89 rfl rfl rfl (by decide) ⟨Nat.le_refl _, Nat.le_refl _⟩ (Nat.le_of_ble_eq_true rfl) ?_
              refine r_inc1 (ls' := [_, _, _, _]) dX2_planEach_134 (by decide) rfl rfl ?_
              refine r_goto 2 dX2_planEach_137 (by decide) ?_
              refine r_pc 2 rfl ?_
              exact ih _ _ f1 pk_us (fun _ _ => rfl) (fun j hj => pk_un hj)
            · exact absurd h13 (by decide)
  subst hw0
  subst hfd
  refine r_iconst (v := (nI 0)) dX2_planEach_0 (by decide) ?_
  refine r_istore_n (ls' := [_, _, _, _]) dX2_planEach_1 (by decide) rfl ?_
  refine r_pc 2 rfl ?_
  exact L 8 0 _ _ (by omega) (fun j h => absurd h (by omega)) (fun j h => absurd h (by omega)) (fun j _ h => hft j h) (fun j _ h => hfu j h)
end F4
