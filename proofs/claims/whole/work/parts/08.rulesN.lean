section RN
variable {Z : ZT} {X : XT} {M : MI} {k mc ms : Nat} {w0 : WD} {nc ns pc : Nat} {ls ls' : List (Option Value)} {st : List Value} {w w2 : WD}
theorem r_topi {x : Int32} (v : Int32) (h : x = v) (K : Rq Z X M k mc ms w0 nc ns pc ls (.int v :: st) w) : Rq Z X M k mc ms w0 nc ns pc ls (.int x :: st) w := h ▸ K
theorem r_topl {x : Int64} (v : Int64) (h : x = v) (K : Rq Z X M k mc ms w0 nc ns pc ls (.long v :: st) w) : Rq Z X M k mc ms w0 nc ns pc ls (.long x :: st) w := h ▸ K
theorem r_pc (pc2 : Nat) (h : pc = pc2) (K : Rq Z X M k mc ms w0 nc ns pc2 ls st w) : Rq Z X M k mc ms w0 nc ns pc ls st w := h ▸ K
theorem r_w (w2 : WD) (h : w = w2) (K : Rq Z X M k mc ms w0 nc ns pc ls st w2) : Rq Z X M k mc ms w0 nc ns pc ls st w := h ▸ K
/-- numbers that are not below 0 -/
theorem r_iaddN {a b : Nat} (hd : decode M.2.1 pc = .ok (.iadd, 1)) (K : Rq Z X M k mc ms w0 nc ns (pc + 1) ls (.int (nI (a + b)) :: st) w) : Rq Z X M k mc ms w0 nc ns pc ls (.int (nI b) :: .int (nI a) :: st) w := r_iadd hd (by rw [nI_add]; exact K)
theorem r_imulN {a b : Nat} (hd : decode M.2.1 pc = .ok (.imul, 1)) (K : Rq Z X M k mc ms w0 nc ns (pc + 1) ls (.int (nI (a * b)) :: st) w) : Rq Z X M k mc ms w0 nc ns pc ls (.int (nI b) :: .int (nI a) :: st) w := r_imul hd (by rw [pk_mul]; exact K)
theorem r_isubN {a b : Nat} (hd : decode M.2.1 pc = .ok (.isub, 1)) (h : b ≤ a) (K : Rq Z X M k mc ms w0 nc ns (pc + 1) ls (.int (nI (a - b)) :: st) w) : Rq Z X M k mc ms w0 nc ns pc ls (.int (nI b) :: .int (nI a) :: st) w := r_isub hd (by rw [pk_sub h]; exact K)
theorem nI_ne (b : Nat) (h0 : 0 < b) (hb : b < 2 ^ 31) : ¬ nI b = 0 := nI_ne0 h0 hb
theorem r_idivN {a b : Nat} (hd : decode M.2.1 pc = .ok (.idiv, 1)) (ha : a < 2 ^ 31) (h0 : 0 < b) (hb : b < 2 ^ 31) (K : Rq Z X M k mc ms w0 nc ns (pc + 1) ls (.int (nI (a / b)) :: st) w) : Rq Z X M k mc ms w0 nc ns pc ls (.int (nI b) :: .int (nI a) :: st) w := r_idiv hd (nI_ne b h0 hb) (by rw [pk_div ha h0 hb]; exact K)
theorem r_iremN {a b : Nat} (hd : decode M.2.1 pc = .ok (.irem, 1)) (ha : a < 2 ^ 31) (h0 : 0 < b) (hb : b < 2 ^ 31) (K : Rq Z X M k mc ms w0 nc ns (pc + 1) ls (.int (nI (a % b)) :: st) w) : Rq Z X M k mc ms w0 nc ns pc ls (.int (nI b) :: .int (nI a) :: st) w := r_irem hd (nI_ne b h0 hb) (by rw [pk_rem ha h0 hb]; exact K)
theorem r_inc1 {j d : Nat} (hd : decode M.2.1 pc = .ok (.iinc j 1, 3)) (hn : j < M.2.2.1) (hx : ls[j]? = some (some (.int (nI d)))) (h : lst1 ls j (.int (nI (d + 1))) = ls') (K : Rq Z X M k mc ms w0 nc ns (pc + 3) ls' st w) : Rq Z X M k mc ms w0 nc ns pc ls st w := r_iinc hd hn hx (nI_1 d) h K
theorem r_icmp_eqN {a b : Nat} {off : Int} (tgt : Nat) (hd : decode M.2.1 pc = .ok (.if_icmp .eq off, 3)) (ht : (pc : Int) + off = (tgt : Int)) (ha : a < 2 ^ 31) (hb : b < 2 ^ 31) (K1 : a = b → Rq Z X M k mc ms w0 nc ns tgt ls st w) (K2 : ¬ a = b → Rq Z X M k mc ms w0 nc ns (pc + 3) ls st w) : Rq Z X M k mc ms w0 nc ns pc ls (.int (nI b) :: .int (nI a) :: st) w :=
  r_icmp_eq tgt hd ht (fun h => K1 ((nI_eq ha hb).mp h)) (fun h => K2 ((fun q => h (by rw [q]))))
theorem r_icmp_neN {a b : Nat} {off : Int} (tgt : Nat) (hd : decode M.2.1 pc = .ok (.if_icmp .ne off, 3)) (ht : (pc : Int) + off = (tgt : Int)) (ha : a < 2 ^ 31) (hb : b < 2 ^ 31) (K1 : ¬ a = b → Rq Z X M k mc ms w0 nc ns tgt ls st w) (K2 : a = b → Rq Z X M k mc ms w0 nc ns (pc + 3) ls st w) : Rq Z X M k mc ms w0 nc ns pc ls (.int (nI b) :: .int (nI a) :: st) w :=
  r_icmp_ne tgt hd ht (fun h => K1 ((fun q => h (by rw [q])))) (fun h => K2 ((nI_eq ha hb).mp h))
theorem r_icmp_ltN {a b : Nat} {off : Int} (tgt : Nat) (hd : decode M.2.1 pc = .ok (.if_icmp .lt off, 3)) (ht : (pc : Int) + off = (tgt : Int)) (ha : a < 2 ^ 31) (hb : b < 2 ^ 31) (K1 : a < b → Rq Z X M k mc ms w0 nc ns tgt ls st w) (K2 : b ≤ a → Rq Z X M k mc ms w0 nc ns (pc + 3) ls st w) : Rq Z X M k mc ms w0 nc ns pc ls (.int (nI b) :: .int (nI a) :: st) w :=
  r_icmp_lt tgt hd ht (fun h => K1 ((nI_ltI ha hb).mp h)) (fun h => K2 ((Nat.not_lt.mp (fun q => h ((nI_ltI ha hb).mpr q)))))
theorem r_icmp_geN {a b : Nat} {off : Int} (tgt : Nat) (hd : decode M.2.1 pc = .ok (.if_icmp .ge off, 3)) (ht : (pc : Int) + off = (tgt : Int)) (ha : a < 2 ^ 31) (hb : b < 2 ^ 31) (K1 : b ≤ a → Rq Z X M k mc ms w0 nc ns tgt ls st w) (K2 : a < b → Rq Z X M k mc ms w0 nc ns (pc + 3) ls st w) : Rq Z X M k mc ms w0 nc ns pc ls (.int (nI b) :: .int (nI a) :: st) w :=
  r_icmp_ge tgt hd ht (fun h => K1 ((nI_leI hb ha).mp h)) (fun h => K2 ((Nat.not_le.mp (fun q => h ((nI_leI hb ha).mpr q)))))
theorem r_icmp_gtN {a b : Nat} {off : Int} (tgt : Nat) (hd : decode M.2.1 pc = .ok (.if_icmp .gt off, 3)) (ht : (pc : Int) + off = (tgt : Int)) (ha : a < 2 ^ 31) (hb : b < 2 ^ 31) (K1 : b < a → Rq Z X M k mc ms w0 nc ns tgt ls st w) (K2 : a ≤ b → Rq Z X M k mc ms w0 nc ns (pc + 3) ls st w) : Rq Z X M k mc ms w0 nc ns pc ls (.int (nI b) :: .int (nI a) :: st) w :=
  r_icmp_gt tgt hd ht (fun h => K1 ((nI_ltI hb ha).mp h)) (fun h => K2 ((Nat.not_lt.mp (fun q => h ((nI_ltI hb ha).mpr q)))))
theorem r_icmp_leN {a b : Nat} {off : Int} (tgt : Nat) (hd : decode M.2.1 pc = .ok (.if_icmp .le off, 3)) (ht : (pc : Int) + off = (tgt : Int)) (ha : a < 2 ^ 31) (hb : b < 2 ^ 31) (K1 : a ≤ b → Rq Z X M k mc ms w0 nc ns tgt ls st w) (K2 : b < a → Rq Z X M k mc ms w0 nc ns (pc + 3) ls st w) : Rq Z X M k mc ms w0 nc ns pc ls (.int (nI b) :: .int (nI a) :: st) w :=
  r_icmp_le tgt hd ht (fun h => K1 ((nI_leI ha hb).mp h)) (fun h => K2 ((Nat.not_le.mp (fun q => h ((nI_leI ha hb).mpr q)))))
/-- static a of zt_arr, as entry idx of class own names it -/
theorem r_gets {idx a : Nat} {q : String × String × String × FieldType × List Int32} (hd : decode M.2.1 pc = .ok (.getstatic idx, 3)) (hq : zt_arr[a]? = some q) (hL : Cond.fieldLink M.1.cls idx q.1 q.2.1 q.2.2.1 ∈ lw_gd ∨ ∃ host, Cond.fieldLinkNest M.1.cls idx q.1 q.2.1 q.2.2.1 host ∈ lw_ns) (K : Rq Z X M k mc ms w0 nc ns (pc + 3) ls (.ref (1000 + a) :: st) w) : Rq Z X M k mc ms w0 nc ns pc ls st w := by
  intro p l e s m args below meth c D cA ad0 A hC hX ad H locs lsA hg hP hD hS hl
  have K := K p l e s m args below meth c D cA ad0 A hC hX ad H locs lsA hg hP hD hS hl
  obtain ⟨hx, hb, hml, hrt, hlk, hnm, hown, hts, hK, hA, hSt⟩ := hC
  have hZ := (hSt.1 a q hq).1
  rw [← hg.2 _ (Or.inr (Nat.le_add_right _ _))] at hZ
  rcases hL with hL | ⟨host, hL⟩
  · exact va_gets hx hb hZ hS hown (hts _ hL) (fun _ h9 => h9) hd K
  · exact va_getsN hx hb hZ hS hown ((hSt.2.2.1.2.1 _ hL).use (ns_tab hL)) (fun _ h9 => h9) hd K
end RN
/-! ===== worlds that are the same below the arrays' lengths ===== -/
def aeq (a b : vp_A) : Prop := a.1 = b.1 ∧ match a.2, b.2 with
  | .inl f, .inl g => ∀ j, j < a.1 → f j = g j
  | .inr (.inl f), .inr (.inl g) => ∀ j, j < a.1 → f j = g j
  | .inr (.inr x), .inr (.inr y) => x = y
  | _, _ => False
def eeq (a b : AE) : Prop := match a, b with
  | .inl x, .inl y => x.1 = y.1 ∧ aeq x.2 y.2
  | .inr x, .inr y => x = y
  | _, _ => False
def leq : List AE → List AE → Prop
  | [], [] => True
  | a :: l, b :: m => eeq a b ∧ leq l m
  | _, _ => False
def weq (a b : WD) : Prop := leq a.1 b.1 ∧ leq a.2 b.2
theorem aeq_rf (a : vp_A) : aeq a a := by
  refine ⟨rfl, ?_⟩
  obtain ⟨n, f | f | f⟩ := a
  · exact fun _ _ => rfl
  · exact fun _ _ => rfl
  · rfl
theorem eeq_rf (a : AE) : eeq a a := by
  cases a with
  | inl x => exact ⟨rfl, aeq_rf _⟩
  | inr x => rfl
theorem leq_rf : ∀ l : List AE, leq l l
  | [] => trivial
  | a :: l => ⟨eeq_rf a, leq_rf l⟩
theorem arrV_ext {cA : ClassId} {n : Nat} {f g : Nat → Value} (h : ∀ j, j < n → f j = g j) : arrV cA n f = arrV cA n g := by
  unfold arrV
  congr 1
  apply Array.ext
  · simp
  · intro i h1 h2
    simp at h1
    simp [h i h1]
theorem ce_ext {ad : Nat → Nat} {cA : Nat → ClassId} {D : va_G} {q : Nat} {a b : AE} {H : Heap} (h : eeq a b) (hp : va_at D vwCl (q, ce ad cA a) H) : va_at D vwCl (q, ce ad cA b) H := by
  match a, b, h with
  | .inr x, .inr y, h => cases h; exact hp
  | .inl x, .inl y, h =>
    obtain ⟨t, n, f⟩ := x
    obtain ⟨t', n', g⟩ := y
    obtain ⟨h1, h2, h3⟩ := h
    dsimp only at h1 h2 h3
    subst h1
    subst h2
    have hp' : H[q]? = some (vp_cell (cA t) (ca ad (n, f))) := hp
    show H[q]? = some (vp_cell (cA t) (ca ad (n, g)))
    rw [hp']
    congr 1
    match f, g, h3 with
    | .inl f, .inl g, h3 => exact arrV_ext (cA := cA t) (n := n) (f := fun j => .int (f j)) (g := fun j => .int (g j)) (fun j hj => by rw [h3 j hj])
    | .inr (.inl f), .inr (.inl g), h3 => exact arrV_ext (cA := cA t) (n := n) (f := fun j => .long (f j)) (g := fun j => .long (g j)) (fun j hj => by rw [h3 j hj])
    | .inr (.inr f), .inr (.inr g), h3 => rw [h3]
theorem leq_get : ∀ (l m : List AE), leq l m → ∀ (k : Nat) (b : AE), m[k]? = some b → ∃ a, l[k]? = some a ∧ eeq a b
  | [], [], _, k, b, h => by simp at h
  | a :: l, b :: m, hl, 0, b', h => by
    simp at h
    subst h
    exact ⟨a, by simp, hl.1⟩
  | a :: l, b :: m, hl, k + 1, b', h => by
    simp at h
    obtain ⟨a', h1, h2⟩ := leq_get l m hl.2 k b' h
    exact ⟨a', by simpa using h1, h2⟩
theorem leq_len : ∀ (l m : List AE), leq l m → l.length = m.length
  | [], [], _ => rfl
  | a :: l, b :: m, hl => congrArg (· + 1) (leq_len l m hl.2)
theorem cw_eq {ad : Nat → Nat} {cA : Nat → ClassId} {w w2 : WD} (h : weq w w2) (k : Nat) (q : Nat × va_E) (hq : (cw ad cA w2)[k]? = some q) : ∃ a b, q = (q.1, ce ad cA b) ∧ (cw ad cA w)[k]? = some (q.1, ce ad cA a) ∧ eeq a b := by
  have e1 := leq_len _ _ h.1
  unfold cw at hq ⊢
  by_cases hk : k < w2.1.length
  · rw [List.getElem?_append_left (by rw [cwl_len]; exact hk), cwl_get] at hq
    rw [List.getElem?_append_left (by rw [cwl_len, e1]; exact hk), cwl_get]
    cases hb : w2.1[k]? with
    | none => rw [hb] at hq; cases hq
    | some b =>
      rw [hb] at hq
      cases hq
      obtain ⟨a, h1, h2⟩ := leq_get _ _ h.1 k b hb
      exact ⟨a, b, rfl, by rw [h1]; rfl, h2⟩
  · rw [List.getElem?_append_right (by rw [cwl_len]; omega), cwl_get, cwl_len] at hq
    rw [List.getElem?_append_right (by rw [cwl_len, e1]; omega), cwl_get, cwl_len, e1]
    cases hb : w2.2[k - w2.1.length]? with
    | none => rw [hb] at hq; cases hq
    | some b =>
      rw [hb] at hq
      cases hq
      obtain ⟨a, h1, h2⟩ := leq_get _ _ h.2 _ b hb
      exact ⟨a, b, rfl, by rw [h1]; rfl, h2⟩
theorem weq_P {ad : Nat → Nat} {cA : Nat → ClassId} {D : va_G} {w w2 : WD} {H : Heap} (h : weq w w2) (hP : va_P D vwCl (cw ad cA w) H) : va_P D vwCl (cw ad cA w2) H := by
  intro k q hq
  obtain ⟨a, b, e1, h1, h2⟩ := cw_eq h k q hq
  rw [e1]
  exact ce_ext h2 (hP k _ h1)
theorem weq_D {ad : Nat → Nat} {cA : Nat → ClassId} {A : Nat → Prop} {w w2 : WD} (h : weq w w2) (hD : va_D A (cw ad cA w)) : va_D A (cw ad cA w2) := by
  refine ⟨fun i j p q hi hj hpq => ?_, fun k q hq => ?_⟩
  · obtain ⟨a, b, e1, h1, h2⟩ := cw_eq h i p hi
    obtain ⟨a', b', e1', h1', h2'⟩ := cw_eq h j q hj
    exact hD.1 i j _ _ h1 h1' hpq
  · obtain ⟨a, b, e1, h1, h2⟩ := cw_eq h k q hq
    exact hD.2 k (q.1, ce ad cA a) h1
theorem r_weq {Z : ZT} {X : XT} {M : MI} {k mc ms : Nat} {w0 : WD} {nc ns pc : Nat} {ls : List (Option Value)} {st : List Value} {w : WD} (w2 : WD) (h : weq w w2) (K : Rq Z X M k mc ms w0 nc ns pc ls st w2) : Rq Z X M k mc ms w0 nc ns pc ls st w :=
  fun p l e s m args below meth c D cA ad0 A hC hX ad H locs lsA hg hP hD hS hl => K p l e s m args below meth c D cA ad0 A hC hX ad H locs lsA hg (weq_P h hP) (weq_D h hD) hS hl
