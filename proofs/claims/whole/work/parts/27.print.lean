/-! ===== the dance as a text ===== -/
def pfd (x : Int32) : Nat → Int32 → List Nat → Int32
  | _, v, [] => v
  | k, v, b :: l => pfd x (k + 1) (if nI k = x then nI b else v) l
theorem pfd_app (x : Int32) : ∀ (l1 l2 : List Nat) (k : Nat) (v : Int32), pfd x k v (l1 ++ l2) = pfd x (k + l1.length) (pfd x k v l1) l2
  | [], l2, k, v => by simp [pfd]
  | b :: l1, l2, k, v => by
    show pfd x (k + 1) _ (l1 ++ l2) = _
    rw [pfd_app x l1 l2 (k + 1), List.length_cons, show k + 1 + l1.length = k + (l1.length + 1) by omega]
    rfl
def callB (w g t : Nat) : List Nat := (if w = 0 then [] else zs w ++ [32]) ++ (zs (9 + g) ++ (if t ≤ 1 then [] else [32, 48 + t]))
def dtx (cd : Nat → Nat) (dc : Nat → Int32) (n : Nat) : Nat → Nat → List Nat
  | 0, _ => []
  | m + 1, i => if i < n then (if i = 0 then [] else [44]) ++ (callB (cd i / 100) (cd i % 100) (sameN dc n i) ++ dtx cd dc n m (i + sameN dc n i)) else []
theorem sfx_ge (dc : Nat → Int32) (n i : Nat) : ∀ m k, k ≤ sfx dc n i m k ∧ sfx dc n i m k ≤ k + m
  | 0, k => ⟨Nat.le_refl _, Nat.le_refl _⟩
  | m + 1, k => by
    unfold sfx
    split
    · have := sfx_ge dc n i m (k + 1); omega
    · omega
theorem sameN_at (dc : Nat → Int32) (n i : Nat) : 1 ≤ sameN dc n i ∧ sameN dc n i ≤ 4 := by
  have := sfx_ge dc n i 3 1
  unfold sameN
  omega
/-- the calls of the dance -/
def Cd (dc : Nat → Int32) (n : Nat) (cd : Nat → Nat) : Prop := ∀ j, j < n → dc j = nI (cd j) ∧ cd j / 100 < 9 ∧ cd j % 100 < 12
section P1
variable {tb : Nat → Int32} {tl : Int32} {tc : Nat → Int32} {tn : Int32} {fc ff fs ft fu fw : Nat → Int32} {fy fd : Int32} {dc : Nat → Int32} {dp dq : Nat → Int64} {dn dm : Int32} {ec : Nat → Int32} {ep eq : Nat → Int64} {en em ik : Int32} {lr : Nat → Int32} {ln ly : Int32} {wh : Int64} {wr : Nat → Int64} {wf wb : Nat → Int32} {wn : Int32} {wc : Nat → Int32} {ws : Int64} {wa pw pf pl : Int32} {ta : Nat → Int32}
variable {R : List AE}
theorem s_putP {k : Nat} {x : Int32} : Sem mX4_put 1 0 0 [.ref 26, .int x] (cW tb tl tc tn fc ff fs ft fu fw fy fd dc dp dq dn dm ec ep eq en em ik lr ln ly wh wr wf wb wn wc ws wa pw pf (nI k) ta, R) none (cW tb tl tc tn fc ff fs ft fu fw fy fd dc dp dq dn dm ec ep eq en em ik lr ln ly wh wr wf wb wn wc ws wa pw (if nI k = pw then x else pf) (nI (k + 1)) ta, R) := by
  refine sem_of (by decide) (Nat.le_of_ble_eq_true rfl) rfl ?_
  refine r_aload_n dX4_put_0 rfl ?_
  refine r_get dX4_put_1 fX4_18 rfl rfl ?_
  refine r_aload_n dX4_put_4 rfl ?_
  refine r_get dX4_put_5 fX4_9 rfl rfl ?_
  refine r_icmp_ne 16 dX4_put_8 (by decide) (fun h8 => ?_) (fun h8 => ?_)
  · rw [if_neg h8]
    refine r_pc 16 rfl ?_
    refine r_aload_n dX4_put_16 rfl ?_
    refine r_dup dX4_put_17 rfl ?_
    refine r_get dX4_put_18 fX4_18 rfl rfl ?_
    refine r_iconst (v := (nI 1)) dX4_put_21 (by decide) ?_
    refine r_iaddN dX4_put_22 ?_
    refine r_pc 23 rfl ?_
    refine r_put (w2 := (cW _ _ _ _ _ _ _ _ _ _ _ _ _ _ _ _ _ _ _ _ _ _ _ _ _ _ _ _ _ _ _ _ _ _ _ _ _ _, _)) dX4_put_23 fX4_18 rfl rfl (Nat.le_of_ble_eq_true rfl) (fun _ => rfl) (fun _ => rfl) rfl ?_
    exact r_vret dX4_put_26 rfl rfl rfl
  · rw [if_pos h8]
    refine r_pc 11 rfl ?_
    refine r_aload_n dX4_put_11 rfl ?_
    refine r_iload_n dX4_put_12 rfl ?_
    refine r_put (w2 := (cW _ _ _ _ _ _ _ _ _ _ _ _ _ _ _ _ _ _ _ _ _ _ _ _ _ _ _ _ _ _ _ _ _ _ _ _ _ _, _)) dX4_put_13 fX4_15 rfl rfl (Nat.le_of_ble_eq_true rfl) (fun _ => rfl) (fun _ => rfl) rfl ?_
    refine r_aload_n dX4_put_16 rfl ?_
    refine r_dup dX4_put_17 rfl ?_
    refine r_pc 18 rfl ?_
    refine r_get dX4_put_18 fX4_18 rfl rfl ?_
    refine r_iconst (v := (nI 1)) dX4_put_21 (by decide) ?_
    refine r_iaddN dX4_put_22 ?_
    refine r_put (w2 := (cW _ _ _ _ _ _ _ _ _ _ _ _ _ _ _ _ _ _ _ _ _ _ _ _ _ _ _ _ _ _ _ _ _ _ _ _ _ _, _)) dX4_put_23 fX4_18 rfl rfl (Nat.le_of_ble_eq_true rfl) (fun _ => rfl) (fun _ => rfl) rfl ?_
    exact r_vret dX4_put_26 rfl rfl rfl
theorem s_putWord {k i : Nat} (hi : i < 21) : Sem mX4_putWord 5 0 0 [.ref 26, .ref (2000 + i)] (cW tb tl tc tn fc ff fs ft fu fw fy fd dc dp dq dn dm ec ep eq en em ik lr ln ly wh wr wf wb wn wc ws wa pw pf (nI k) ta, R) none (cW tb tl tc tn fc ff fs ft fu fw fy fd dc dp dq dn dm ec ep eq en em ik lr ln ly wh wr wf wb wn wc ws wa pw (pfd pw k pf (zs i)) (nI (k + (zs i).length)) ta, R) := by
  refine sem_of (by decide) (Nat.le_of_ble_eq_true rfl) rfl ?_
  have hq := zs_at i hi
  have hq8 := (zt_small hq).1
  generalize hw0 : (cW tb tl tc tn fc ff fs ft fu fw fy fd dc dp dq dn dm ec ep eq en em ik lr ln ly wh wr wf wb wn wc ws wa pw pf (nI k) ta, R) = w0
  have L : ∀ (m j : Nat), j + m = (zs i).length → Rn mX4_putWord 5 0 0 w0 none (cW tb tl tc tn fc ff fs ft fu fw fy fd dc dp dq dn dm ec ep eq en em ik lr ln ly wh wr wf wb wn wc ws wa pw (pfd pw k pf (zs i)) (nI (k + (zs i).length)) ta, R) 0 0 2 [some (.ref 26), some (.ref (2000 + i)), some (.int (nI j))] [] (cW tb tl tc tn fc ff fs ft fu fw fy fd dc dp dq dn dm ec ep eq en em ik lr ln ly wh wr wf wb wn wc ws wa pw (pfd pw k pf ((zs i).take j)) (nI (k + j)) ta, R) := by
    intro m
    induction m with
    | zero =>
      intro j hj
      have : j = (zs i).length := by omega
      subst this
      rw [List.take_length]
      refine r_iload_n dX4_putWord_2 rfl ?_
      refine r_aload_n dX4_putWord_3 rfl ?_
      refine r_cT dX4_putWord_4 hq (s_strlen _ hq) lX4_54 rfl rfl (by decide) ⟨Nat.le_refl _, Nat.le_refl _⟩ (Nat.le_of_ble_eq_true rfl) ?_
      refine r_icmp_geN 25 dX4_putWord_7 (by decide) (by omega) (by omega) (fun h7 => ?_) (fun h7 => ?_)
      · refine r_pc 25 rfl ?_
        exact r_vret dX4_putWord_25 rfl rfl rfl
      · exact absurd h7 (by omega)
    | succ m ih =>
      intro j hj
      have hjl : j < (zs i).length := by omega
      have ih := ih (j + 1) (by omega)
      have e1 : (zs i).take (j + 1) = (zs i).take j ++ [(zs i).getD j 0] := by
        rw [List.take_add_one, List.getElem?_eq_getElem hjl, List.getD_eq_getElem?_getD, List.getElem?_eq_getElem hjl]
        rfl
      have e2 : ((zs i).take j).length = j := by rw [List.length_take]; omega
      rw [e1, pfd_app, e2] at ih
      refine r_iload_n dX4_putWord_2 rfl ?_
      refine r_aload_n dX4_putWord_3 rfl ?_
      refine r_cT dX4_putWord_4 hq (s_strlen _ hq) lX4_54 rfl rfl (by decide) ⟨Nat.le_refl _, Nat.le_refl _⟩ (Nat.le_of_ble_eq_true rfl) ?_
      refine r_icmp_geN 25 dX4_putWord_7 (by decide) (by omega) (by omega) (fun h7 => ?_) (fun h7 => ?_)
      · exact absurd h7 (by omega)
      · refine r_pc 10 rfl ?_
        refine r_aload_n dX4_putWord_10 rfl ?_
        refine r_aload_n dX4_putWord_11 rfl ?_
        refine r_iload_n dX4_putWord_12 rfl ?_
        refine r_cT dX4_putWord_13 hq (s_charAt _ hq hjl) lX4_59 rfl rfl (by decide) ⟨Nat.le_refl _, Nat.le_refl _⟩ (Nat.le_of_ble_eq_true rfl) ?_
        refine r_cVv dX4_putWord_16 s_putP lX4_30 rfl rfl rfl (by decide) ⟨Nat.le_refl _, Nat.le_refl _⟩ (Nat.le_of_ble_eq_true rfl) ?_
        refine r_pc 19 rfl ?_
        refine r_inc1 (ls' := [_, _, _]) dX4_putWord_19 (by decide) rfl rfl ?_
        refine r_goto 2 dX4_putWord_22 (by decide) ?_
        refine r_pc 2 rfl ?_
        exact ih
  subst hw0
  refine r_iconst (v := (nI 0)) dX4_putWord_0 (by decide) ?_
  refine r_istore_n (ls' := [_, _, _]) dX4_putWord_1 (by decide) rfl ?_
  refine r_pc 2 rfl ?_
  exact L _ 0 (Nat.zero_add _)
theorem s_writeCall {k w g t : Nat} (hw : w < 9) (hg : g < 12) (ht : t ≤ 4) : Sem mX4_writeCall 6 0 0 [.ref 26, .int (nI (100 * w + g)), .int (nI t)] (cW tb tl tc tn fc ff fs ft fu fw fy fd dc dp dq dn dm ec ep eq en em ik lr ln ly wh wr wf wb wn wc ws wa pw pf (nI k) ta, R) none (cW tb tl tc tn fc ff fs ft fu fw fy fd dc dp dq dn dm ec ep eq en em ik lr ln ly wh wr wf wb wn wc ws wa pw (pfd pw k pf (callB w g t)) (nI (k + (callB w g t).length)) ta, R) := by
  refine sem_of (by decide) (Nat.le_of_ble_eq_true rfl) rfl ?_
  have hr : (100 * w + g) % 100 = g := by omega
  have hq : (100 * w + g) / 100 = w := by omega
  generalize hw0 : (cW tb tl tc tn fc ff fs ft fu fw fy fd dc dp dq dn dm ec ep eq en em ik lr ln ly wh wr wf wb wn wc ws wa pw pf (nI k) ta, R) = w0
  have hof : ∀ w' : WD, Sem mX7_ofFigure 1 0 0 [.int (nI g)] w' (some (.ref (2000 + (9 + g)))) w' := by
    intro w'
    have := s_ofFigure w' (n := g) hg
    rw [show 2009 + g = 2000 + (9 + g) by omega] at this
    exact this
  have T : ∀ (l : List Nat), Rn mX4_writeCall 6 0 0 w0 none (cW tb tl tc tn fc ff fs ft fu fw fy fd dc dp dq dn dm ec ep eq en em ik lr ln ly wh wr wf wb wn wc ws wa pw (pfd pw k pf (l ++ (zs (9 + g) ++ (if t ≤ 1 then [] else [32, 48 + t])))) (nI (k + (l ++ (zs (9 + g) ++ (if t ≤ 1 then [] else [32, 48 + t]))).length)) ta, R) 0 0 23 [some (.ref 26), some (.int (nI (100 * w + g))), some (.int (nI t)), some (.int (nI w))] [] (cW tb tl tc tn fc ff fs ft fu fw fy fd dc dp dq dn dm ec ep eq en em ik lr ln ly wh wr wf wb wn wc ws wa pw (pfd pw k pf l) (nI (k + l.length)) ta, R) := by
    intro l
    have G : Rn mX4_writeCall 6 0 0 w0 none (cW tb tl tc tn fc ff fs ft fu fw fy fd dc dp dq dn dm ec ep eq en em ik lr ln ly wh wr wf wb wn wc ws wa pw (pfd pw k pf ((l ++ zs (9 + g)) ++ (if t ≤ 1 then [] else [32, 48 + t]))) (nI (k + ((l ++ zs (9 + g)) ++ (if t ≤ 1 then [] else [32, 48 + t])).length)) ta, R) 0 0 34 [some (.ref 26), some (.int (nI (100 * w + g))), some (.int (nI t)), some (.int (nI w))] [] (cW tb tl tc tn fc ff fs ft fu fw fy fd dc dp dq dn dm ec ep eq en em ik lr ln ly wh wr wf wb wn wc ws wa pw (pfd pw k pf (l ++ zs (9 + g))) (nI (k + (l ++ zs (9 + g)).length)) ta, R) := by
      by_cases ht1 : t ≤ 1
      · rw [if_pos ht1, List.append_nil]
        refine r_iload_n dX4_writeCall_34 rfl ?_
        refine r_iconst (v := (nI 1)) dX4_writeCall_35 (by decide) ?_
        refine r_icmp_leN 53 dX4_writeCall_36 (by decide) (by omega) (by omega) (fun h36 => ?_) (fun h36 => ?_)
        · refine r_pc 53 rfl ?_
          exact r_vret dX4_writeCall_53 rfl rfl rfl
        · exact absurd h36 (by omega)
      · rw [if_neg ht1]
        generalize l ++ zs (9 + g) = l2
        have e1 : (l2 ++ [32, 48 + t]).length = l2.length + 1 + 1 := by simp
        have e2 : pfd pw k pf (l2 ++ [32, 48 + t]) = (if nI (k + l2.length + 1) = pw then nI (48 + t) else if nI (k + l2.length) = pw then nI 32 else pfd pw k pf l2) := by rw [pfd_app]; rfl
        rw [e1, e2]
        refine r_iload_n dX4_writeCall_34 rfl ?_
        refine r_iconst (v := (nI 1)) dX4_writeCall_35 (by decide) ?_
        refine r_icmp_leN 53 dX4_writeCall_36 (by decide) (by omega) (by omega) (fun h36 => ?_) (fun h36 => ?_)
        · exact absurd h36 (by omega)
        · refine r_pc 39 rfl ?_
          refine r_aload_n dX4_writeCall_39 rfl ?_
          refine r_bipush (v := (nI 32)) dX4_writeCall_40 (by decide) ?_
          refine r_cVv dX4_writeCall_42 s_putP lX4_30 rfl rfl rfl (by decide) ⟨Nat.le_refl _, Nat.le_refl _⟩ (Nat.le_of_ble_eq_true rfl) ?_
          refine r_aload_n dX4_writeCall_45 rfl ?_
          refine r_bipush (v := (nI 48)) dX4_writeCall_46 (by decide) ?_
          refine r_pc 48 rfl ?_
          refine r_iload_n dX4_writeCall_48 rfl ?_
          refine r_iaddN dX4_writeCall_49 ?_
          refine r_cVv dX4_writeCall_50 s_putP lX4_30 rfl rfl rfl (by decide) ⟨Nat.le_refl _, Nat.le_refl _⟩ (Nat.le_of_ble_eq_true rfl) ?_
          exact r_vret dX4_writeCall_53 rfl rfl rfl
    have e1 : l ++ (zs (9 + g) ++ (if t ≤ 1 then [] else [32, 48 + t])) = (l ++ zs (9 + g)) ++ (if t ≤ 1 then [] else [32, 48 + t]) := (List.append_assoc _ _ _).symm
    rw [e1]
    rw [List.length_append (as := l) (bs := zs (9 + g)), pfd_app pw l (zs (9 + g)), ← Nat.add_assoc] at G
    refine r_aload_n dX4_writeCall_23 rfl ?_
    refine r_iload_n dX4_writeCall_24 rfl ?_
    refine r_bipush (v := (nI 100)) dX4_writeCall_25 (by decide) ?_
    refine r_iremN dX4_writeCall_27 (by omega) (by decide) (by decide) ?_
    rw [hr]
    refine r_cS dX4_writeCall_28 (hof _) lX4_51 rfl rfl (by decide) ⟨Nat.le_refl _, Nat.le_refl _⟩ (Nat.le_of_ble_eq_true rfl) ?_
    refine r_pc 31 rfl ?_
    refine r_cVv dX4_writeCall_31 (s_putWord (by omega)) lX4_47 rfl rfl rfl (by decide) ⟨Nat.le_refl _, Nat.le_refl _⟩ (Nat.le_of_ble_eq_true rfl) ?_
    refine r_pc 34 rfl ?_
    exact G
  subst hw0
  unfold callB
  by_cases hw0 : w = 0
  · rw [if_pos hw0]
    have T := T []
    subst hw0
    refine r_iload_n dX4_writeCall_0 rfl ?_
    refine r_bipush (v := (nI 100)) dX4_writeCall_1 (by decide) ?_
    refine r_idivN dX4_writeCall_3 (by omega) (by decide) (by decide) ?_
    rw [hq]
    refine r_istore_n (ls' := [_, _, _, _]) dX4_writeCall_4 (by decide) rfl ?_
    refine r_iload_n dX4_writeCall_5 rfl ?_
    refine r_pc 6 rfl ?_
    refine r_if_eq 23 dX4_writeCall_6 (by decide) (fun h6 => ?_) (fun h6 => ?_)
    · refine r_pc 23 rfl ?_
      refine r_pc 23 rfl ?_
      exact T
    · exact absurd rfl h6
  · rw [if_neg hw0]
    have T := T (zs w ++ [32])
    have e2 : pfd pw k pf (zs w ++ [32]) = (if nI (k + (zs w).length) = pw then nI 32 else pfd pw k pf (zs w)) := by rw [pfd_app]; rfl
    have e3 : (zs w ++ [32]).length = (zs w).length + 1 := by simp
    rw [e2, e3] at T
    refine r_iload_n dX4_writeCall_0 rfl ?_
    refine r_bipush (v := (nI 100)) dX4_writeCall_1 (by decide) ?_
    refine r_idivN dX4_writeCall_3 (by omega) (by decide) (by decide) ?_
    rw [hq]
    refine r_istore_n (ls' := [_, _, _, _]) dX4_writeCall_4 (by decide) rfl ?_
    refine r_iload_n dX4_writeCall_5 rfl ?_
    refine r_pc 6 rfl ?_
    refine r_if_eq 23 dX4_writeCall_6 (by decide) (fun h6 => ?_) (fun h6 => ?_)
    · exact absurd (nI_z (by omega) h6) hw0
    · refine r_pc 9 rfl ?_
      refine r_aload_n dX4_writeCall_9 rfl ?_
      refine r_iload_n dX4_writeCall_10 rfl ?_
      refine r_cS dX4_writeCall_11 (s_ofWho _ hw) lX4_41 rfl rfl (by decide) ⟨Nat.le_refl _, Nat.le_refl _⟩ (Nat.le_of_ble_eq_true rfl) ?_
      refine r_cVv dX4_writeCall_14 (s_putWord (by omega)) lX4_47 rfl rfl rfl (by decide) ⟨Nat.le_refl _, Nat.le_refl _⟩ (Nat.le_of_ble_eq_true rfl) ?_
      refine r_aload_n dX4_writeCall_17 rfl ?_
      refine r_pc 18 rfl ?_
      refine r_bipush (v := (nI 32)) dX4_writeCall_18 (by decide) ?_
      refine r_cVv dX4_writeCall_20 s_putP lX4_30 rfl rfl rfl (by decide) ⟨Nat.le_refl _, Nat.le_refl _⟩ (Nat.le_of_ble_eq_true rfl) ?_
      refine r_pc 23 rfl ?_
      exact T
theorem s_write {n : Nat} {x : Int32} {cd : Nat → Nat} (hn : n ≤ 200) (hc : Cd dc n cd) : Sem mX4_write 7 0 0 [.ref 26, .ref 11, .int x] (cW tb tl tc tn fc ff fs ft fu fw fy fd dc dp dq (nI n) dm ec ep eq en em ik lr ln ly wh wr wf wb wn wc ws wa pw pf pl ta, R) none (cW tb tl tc tn fc ff fs ft fu fw fy fd dc dp dq (nI n) dm ec ep eq en em ik lr ln ly wh wr wf wb wn wc ws wa (x) (pfd x 0 pf (dtx cd dc n 200 0)) (nI (dtx cd dc n 200 0).length) ta, R) := by
  refine sem_of (by decide) (Nat.le_of_ble_eq_true rfl) rfl ?_
  generalize hw0 : (cW tb tl tc tn fc ff fs ft fu fw fy fd dc dp dq (nI n) dm ec ep eq en em ik lr ln ly wh wr wf wb wn wc ws wa pw pf pl ta, R) = w0
  have L : ∀ (m i : Nat) (l : List Nat) (y3 : Int32), n ≤ i + m → i < 2 ^ 30 → Rn mX4_write 7 0 0 w0 none (cW tb tl tc tn fc ff fs ft fu fw fy fd dc dp dq (nI n) dm ec ep eq en em ik lr ln ly wh wr wf wb wn wc ws wa (x) (pfd x 0 pf (l ++ dtx cd dc n m i)) (nI (l ++ dtx cd dc n m i).length) ta, R) 0 0 15 [some (.ref 26), some (.ref 11), some (.int x), some (.int y3), some (.int (nI i))] [] (cW tb tl tc tn fc ff fs ft fu fw fy fd dc dp dq (nI n) dm ec ep eq en em ik lr ln ly wh wr wf wb wn wc ws wa (x) (pfd x 0 pf l) (nI l.length) ta, R) := by
    intro m
    induction m with
    | zero =>
      intro i l y3 hi hi2
      unfold dtx
      rw [List.append_nil]
      refine r_iload dX4_write_15 rfl ?_
      refine r_aload_n dX4_write_17 rfl ?_
      refine r_get dX4_write_18 fX4_21 rfl rfl ?_
      refine r_icmp_geN 62 dX4_write_21 (by decide) (by omega) (by omega) (fun h21 => ?_) (fun h21 => ?_)
      · refine r_pc 62 rfl ?_
        exact r_vret dX4_write_62 rfl rfl rfl
      · exact absurd h21 (by omega)
    | succ m ih =>
      intro i l y3 hi hi2
      unfold dtx
      by_cases hin : i < n
      · rw [if_pos hin]
        obtain ⟨e1, b1, b2⟩ := hc i hin
        obtain ⟨s1, s2⟩ := sameN_at dc n i
        have e2 : cd i = 100 * (cd i / 100) + cd i % 100 := by omega
        have G : ∀ (l2 : List Nat), Rn mX4_write 7 0 0 w0 none (cW tb tl tc tn fc ff fs ft fu fw fy fd dc dp dq (nI n) dm ec ep eq en em ik lr ln ly wh wr wf wb wn wc ws wa (x) (pfd x 0 pf (l2 ++ (callB (cd i / 100) (cd i % 100) (sameN dc n i) ++ dtx cd dc n m (i + sameN dc n i)))) (nI (l2 ++ (callB (cd i / 100) (cd i % 100) (sameN dc n i) ++ dtx cd dc n m (i + sameN dc n i))).length) ta, R) 0 0 42 [some (.ref 26), some (.ref 11), some (.int x), some (.int (nI (sameN dc n i))), some (.int (nI i))] [] (cW tb tl tc tn fc ff fs ft fu fw fy fd dc dp dq (nI n) dm ec ep eq en em ik lr ln ly wh wr wf wb wn wc ws wa (x) (pfd x 0 pf l2) (nI l2.length) ta, R) := by
          intro l2
          have ih := ih (i + sameN dc n i) (l2 ++ callB (cd i / 100) (cd i % 100) (sameN dc n i)) (nI (sameN dc n i)) (by omega) (by omega)
          rw [List.append_assoc, List.length_append (as := l2) (bs := callB _ _ _), pfd_app x l2 (callB _ _ _), Nat.zero_add] at ih
          refine r_aload_n dX4_write_42 rfl ?_
          refine r_aload_n dX4_write_43 rfl ?_
          refine r_iload dX4_write_44 rfl ?_
          refine r_cV dX4_write_46 (s_codeAtD hn hin) lX4_34 rfl rfl rfl (by decide) ⟨Nat.le_refl _, Nat.le_refl _⟩ (Nat.le_of_ble_eq_true rfl) ?_
          refine r_topi (nI (100 * (cd i / 100) + cd i % 100)) (by rw [e1, ← e2]) ?_
          refine r_iload_n dX4_write_49 rfl ?_
          refine r_pc 50 rfl ?_
          refine r_cVv dX4_write_50 (s_writeCall b1 b2 s2) lX4_37 rfl rfl rfl (by decide) ⟨Nat.le_refl _, Nat.le_refl _⟩ (Nat.le_of_ble_eq_true rfl) ?_
          refine r_iload dX4_write_53 rfl ?_
          refine r_iload_n dX4_write_55 rfl ?_
          refine r_iaddN dX4_write_56 ?_
          refine r_istore (ls' := [_, _, _, _, _]) dX4_write_57 (by decide) rfl ?_
          refine r_pc 59 rfl ?_
          refine r_goto 15 dX4_write_59 (by decide) ?_
          refine r_pc 15 rfl ?_
          exact ih
        by_cases hi0 : i = 0
        · rw [if_pos hi0]
          have G := G l
          refine r_iload dX4_write_15 rfl ?_
          refine r_aload_n dX4_write_17 rfl ?_
          refine r_get dX4_write_18 fX4_21 rfl rfl ?_
          refine r_icmp_geN 62 dX4_write_21 (by decide) (by omega) (by omega) (fun h21 => ?_) (fun h21 => ?_)
          · exact absurd h21 (by omega)
          · refine r_pc 24 rfl ?_
            refine r_aload_n dX4_write_24 rfl ?_
            refine r_iload dX4_write_25 rfl ?_
            refine r_cV dX4_write_27 (s_sameFrom hn hin) lX4_26 rfl rfl rfl (by decide) ⟨Nat.le_refl _, Nat.le_refl _⟩ (Nat.le_of_ble_eq_true rfl) ?_
            refine r_istore_n (ls' := [_, _, _, _, _]) dX4_write_30 (by decide) rfl ?_
            refine r_iload dX4_write_31 rfl ?_
            refine r_pc 33 rfl ?_
            refine r_if_le 42 dX4_write_33 (by decide) (fun h33 => ?_) (fun h33 => ?_)
            · refine r_pc 42 rfl ?_
              refine r_pc 42 rfl ?_
              exact G
            · exact absurd (by rw [hi0]; decide) h33
        · rw [if_neg hi0]
          have G := G (l ++ [44])
          have e3 : pfd x 0 pf (l ++ [44]) = (if nI l.length = x then nI 44 else pfd x 0 pf l) := by rw [pfd_app, Nat.zero_add]; rfl
          have e4 : (l ++ [44]).length = l.length + 1 := by simp
          rw [e3, e4, List.append_assoc] at G
          refine r_iload dX4_write_15 rfl ?_
          refine r_aload_n dX4_write_17 rfl ?_
          refine r_get dX4_write_18 fX4_21 rfl rfl ?_
          refine r_icmp_geN 62 dX4_write_21 (by decide) (by omega) (by omega) (fun h21 => ?_) (fun h21 => ?_)
          · exact absurd h21 (by omega)
          · refine r_pc 24 rfl ?_
            refine r_aload_n dX4_write_24 rfl ?_
            refine r_iload dX4_write_25 rfl ?_
            refine r_cV dX4_write_27 (s_sameFrom hn hin) lX4_26 rfl rfl rfl (by decide) ⟨Nat.le_refl _, Nat.le_refl _⟩ (Nat.le_of_ble_eq_true rfl) ?_
            refine r_istore_n (ls' := [_, _, _, _, _]) dX4_write_30 (by decide) rfl ?_
            refine r_iload dX4_write_31 rfl ?_
            refine r_pc 33 rfl ?_
            refine r_if_le 42 dX4_write_33 (by decide) (fun h33 => ?_) (fun h33 => ?_)
            · exact absurd h33 (nI_nle (by omega) (by omega))
            · refine r_pc 36 rfl ?_
              refine r_aload_n dX4_write_36 rfl ?_
              refine r_bipush (v := (nI 44)) dX4_write_37 (by decide) ?_
              refine r_cVv dX4_write_39 s_putP lX4_30 rfl rfl rfl (by decide) ⟨Nat.le_refl _, Nat.le_refl _⟩ (Nat.le_of_ble_eq_true rfl) ?_
              refine r_pc 42 rfl ?_
              exact G
      · rw [if_neg hin, List.append_nil]
        refine r_iload dX4_write_15 rfl ?_
        refine r_aload_n dX4_write_17 rfl ?_
        refine r_get dX4_write_18 fX4_21 rfl rfl ?_
        refine r_icmp_geN 62 dX4_write_21 (by decide) (by omega) (by omega) (fun h21 => ?_) (fun h21 => ?_)
        · refine r_pc 62 rfl ?_
          exact r_vret dX4_write_62 rfl rfl rfl
        · exact absurd h21 hin
  subst hw0
  refine r_aload_n dX4_write_0 rfl ?_
  refine r_iload_n dX4_write_1 rfl ?_
  refine r_put (w2 := (cW _ _ _ _ _ _ _ _ _ _ _ _ _ _ _ _ _ _ _ _ _ _ _ _ _ _ _ _ _ _ _ _ _ _ _ _ _ _, _)) dX4_write_2 fX4_9 rfl rfl (Nat.le_of_ble_eq_true rfl) (fun _ => rfl) (fun _ => rfl) rfl ?_
  refine r_aload_n dX4_write_5 rfl ?_
  refine r_iconst (v := (nI 0)) dX4_write_6 (by decide) ?_
  refine r_pc 7 rfl ?_
  refine r_put (w2 := (cW _ _ _ _ _ _ _ _ _ _ _ _ _ _ _ _ _ _ _ _ _ _ _ _ _ _ _ _ _ _ _ _ _ _ _ _ _ _, _)) dX4_write_7 fX4_18 rfl rfl (Nat.le_of_ble_eq_true rfl) (fun _ => rfl) (fun _ => rfl) rfl ?_
  refine r_iconst (v := (nI 1)) dX4_write_10 (by decide) ?_
  refine r_istore_n (ls' := [_, _, _, _, _]) dX4_write_11 (by decide) rfl ?_
  refine r_iconst (v := (nI 0)) dX4_write_12 (by decide) ?_
  refine r_istore (ls' := [_, _, _, _, _]) dX4_write_13 (by decide) rfl ?_
  refine r_pc 15 rfl ?_
  refine r_pc 15 rfl ?_
  exact L 200 0 [] _ (by omega) (by decide)
end P1
