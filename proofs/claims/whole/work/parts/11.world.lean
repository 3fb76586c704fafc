/-! ===== the worlds of the class (all its cells; the floor's alone) and of the reference ===== -/
abbrev G8 : Type := (Nat → Int32) × (Nat → Int32) × (Nat → Int32) × (Nat → Int32) × (Nat → Int32) × (Nat → Int32) × Int32 × Int32
def cW (tb : Nat → Int32) (tl : Int32) (tc : Nat → Int32) (tn : Int32) (fc ff fs ft fu fw : Nat → Int32) (fy fd : Int32) (dc : Nat → Int32) (dp dq : Nat → Int64) (dn dm : Int32) (ec : Nat → Int32) (ep eq : Nat → Int64) (en em ik : Int32) (lr : Nat → Int32) (ln ly : Int32) (wh : Int64) (wr : Nat → Int64) (wf wb : Nat → Int32) (wn : Int32) (gz : G8) (wc : Nat → Int32) (ws : Int64) (wa pw pf pl : Int32) (ta : Nat → Int32) : List AE := [.inr (6, [.ref 1, .ref 4, .ref 11, .ref 15, .int ik, .ref 19, .ref 21, .ref 33, .ref 34]), .inr (4, [.ref 2, .int tl, .ref 3, .int tn]), .inl (0, 120, .inl tb), .inl (0, 120, .inl tc), .inr (2, [.ref 5, .ref 6, .ref 7, .ref 8, .ref 9, .ref 10, .int fy, .int fd]), .inl (0, 8, .inl fc), .inl (0, 8, .inl ff), .inl (0, 16, .inl fs), .inl (0, 8, .inl ft), .inl (0, 8, .inl fu), .inl (0, 8, .inl fw), .inr (0, [.ref 12, .ref 13, .ref 14, .int dn, .int dm]), .inl (0, 200, .inl dc), .inl (1, 201, .inr (.inl dp)), .inl (1, 201, .inr (.inl dq)), .inr (0, [.ref 16, .ref 17, .ref 18, .int en, .int em]), .inl (0, 200, .inl ec), .inl (1, 201, .inr (.inl ep)), .inl (1, 201, .inr (.inl eq)), .inr (1, [.ref 20, .int ln, .int ly]), .inl (0, 8, .inl lr), .inr (5, [.ref 22, .long wh, .ref 29, .ref 30, .ref 31, .int wn, .ref 32, .long ws, .int wa]), .inr (2, [.ref 23, .ref 24, .ref 25, .ref 26, .ref 27, .ref 28, .int gz.2.2.2.2.2.2.1, .int gz.2.2.2.2.2.2.2]), .inl (0, 8, .inl gz.1), .inl (0, 8, .inl gz.2.1), .inl (0, 16, .inl gz.2.2.1), .inl (0, 8, .inl gz.2.2.2.1), .inl (0, 8, .inl gz.2.2.2.2.1), .inl (0, 8, .inl gz.2.2.2.2.2.1), .inl (1, 250, .inr (.inl wr)), .inl (0, 250, .inl wf), .inl (0, 250, .inl wb), .inl (0, 250, .inl wc), .inr (3, [.int pw, .int pf, .int pl]), .inl (0, 12, .inl ta)]
def cF (x0 x1 x2 x3 : AE) (fc ff fs ft fu fw : Nat → Int32) (fy fd : Int32) (po : List AE) : List AE := x0 :: x1 :: x2 :: x3 :: .inr (2, [.ref 5, .ref 6, .ref 7, .ref 8, .ref 9, .ref 10, .int fy, .int fd]) :: .inl (0, 8, .inl fc) :: .inl (0, 8, .inl ff) :: .inl (0, 16, .inl fs) :: .inl (0, 8, .inl ft) :: .inl (0, 8, .inl fu) :: .inl (0, 8, .inl fw) :: po
def mW (rc rf ro rt ru rm rg : Nat → Int32) (rp rq : Int32) (ry rl : Nat → Int32) (rn ra : Int32) (rw rk : Nat → Int64) (rx rz rd : Nat → Int32) (rM rU rK : Int32) (rT rR : Nat → Int32) (rL rN rA rF : Int32) (rC : Nat → Int64) (rO rB rY rP : Nat → Int32) (rb : Int32) : List AE := [.inr (7, [.ref 101, .ref 102, .ref 103, .ref 104, .ref 105, .ref 106, .ref 107, .ref 108, .ref 109, .int rp, .int rq, .ref 110, .ref 111, .int rn, .int ra, .ref 112, .ref 113, .ref 114, .ref 115, .ref 116, .int rM, .int rU, .int rK, .ref 117, .ref 118, .int rL, .int rN, .int rA, .int rF, .ref 119, .ref 120, .ref 121, .ref 122, .ref 123, .int rb]), .inl (3, 9, .inr (.inr (.inr (.inr (fun j => some (2000 + j)))))), .inl (3, 12, .inr (.inr (.inr (.inr (fun j => some (2009 + j)))))), .inl (0, 8, .inl rc), .inl (0, 8, .inl rf), .inl (0, 16, .inl ro), .inl (0, 8, .inl rt), .inl (0, 8, .inl ru), .inl (0, 8, .inl rm), .inl (2, 8, .inl rg), .inl (0, 8, .inl ry), .inl (0, 8, .inl rl), .inl (1, 201, .inr (.inl rw)), .inl (1, 201, .inr (.inl rk)), .inl (0, 200, .inl rx), .inl (0, 200, .inl rz), .inl (0, 12, .inl rd), .inl (0, 120, .inl rT), .inl (0, 120, .inl rR), .inl (1, 251, .inr (.inl rC)), .inl (0, 251, .inl rO), .inl (0, 251, .inl rB), .inl (0, 251, .inl rY), .inl (0, 4000, .inl rP)]
/-! ===== words for squares ===== -/
def nb (c f : Nat) : Option Nat := if f = 0 then (if c / 4 < 3 then some (c + 4) else none) else if f = 1 then (if c % 4 < 3 then some (c + 1) else none) else if f = 2 then (if 1 ≤ c / 4 then some (c - 4) else none) else (if 1 ≤ c % 4 then some (c - 1) else none)
def stI (o : Option Nat) : Int32 := match o with
  | none => -1
  | some d => nI d
def bI (b : Bool) : Int32 := match b with
  | true => nI 1
  | false => nI 0
theorem nbI_nb0 : ∀ c, c < 16 → ∀ f, f < 4 → nbI c f = stI (nb c f) := by decide +kernel
theorem nb_lt0 : ∀ c, c < 16 → ∀ f, f < 4 → (nb c f).all (fun x => decide (x < 16)) = true := by decide +kernel
theorem nb_lt {c f x : Nat} (hc : c < 16) (hf : f < 4) (h : nb c f = some x) : x < 16 := by
  have := nb_lt0 c hc f hf
  rw [h] at this
  simpa using this
theorem nI_m1 {x : Nat} (h : x < 2 ^ 31) : ¬ nI x = -1 := by
  intro q
  have h1 := nI_toInt h
  rw [q] at h1
  have h2 : ((-1 : Int32)).toInt = -1 := by decide
  omega
theorem stI_eq {o : Option Nat} (h : ∀ x, o = some x → x < 2 ^ 31) : stI o = -1 ↔ o = none := by
  cases o with
  | none => simp [stI]
  | some x => simp [stI, nI_m1 (h x rfl)]
/-- the floor shows the square (c, f): who stands where -/
def who (c : Nat → Nat) : Nat → Nat → Option Nat
  | 0, _ => none
  | n + 1, x => if c n = x then some n else who c n x
theorem who_lt {c : Nat → Nat} : ∀ {n x d : Nat}, who c n x = some d → d < n
  | 0, x, d, h => by simp [who] at h
  | n + 1, x, d, h => by
    unfold who at h
    split at h
    · cases h; omega
    · have := who_lt h; omega
def Sq (fc ff : Nat → Int32) (c f : Nat → Nat) : Prop := ∀ j, j < 8 → fc j = nI (c j) ∧ c j < 16 ∧ ff j = nI (f j) ∧ f j < 4
def Sd (fs : Nat → Int32) (c : Nat → Nat) : Prop := ∀ x, x < 16 → fs x = stI (who c 8 x)
def bes (c f : Nat → Nat) (d r : Nat) : Option Nat := match nb (c d) ((f d + r) % 4) with
  | none => none
  | some x => who c 8 x
theorem bes_lt {c f : Nat → Nat} {d r e : Nat} (h : bes c f d r = some e) : e < 8 := by
  unfold bes at h
  split at h
  · cases h
  · exact who_lt h
theorem upd_lt {f g : Nat → Int32} {i : Nat} {v : Int32} (h : ∀ j, j < i → f j = g j) (hv : v = g i) : ∀ j, j < i + 1 → upd f i v j = g j := by
  intro j hj
  by_cases e : j = i
  · subst e
    rw [pk_us]
    exact hv
  · rw [pk_un e]
    exact h j (by omega)
theorem updL_lt {f g : Nat → Int64} {i : Nat} {v : Int64} (h : ∀ j, j < i → f j = g j) (hv : v = g i) : ∀ j, j < i + 1 → vp_updL f i v j = g j := by
  intro j hj
  by_cases e : j = i
  · subst e
    rw [pk_uLs]
    exact hv
  · rw [pk_uLn e]
    exact h j (by omega)
theorem who_step {fs : Nat → Int32} {c : Nat → Nat} {i : Nat} (h : ∀ x, x < 16 → fs x = stI (who c i x)) : ∀ x, x < 16 → upd fs (c i) (nI i) x = stI (who c (i + 1) x) := by
  intro x hx
  unfold who
  by_cases e : c i = x
  · subst e
    rw [pk_us, if_pos rfl]
    rfl
  · rw [pk_un (fun z => e z.symm), if_neg e]
    exact h x hx
/-- whether o faces as d does -/
def lik (f : Nat → Nat) (d : Nat) (o : Option Nat) : Bool := match o with
  | none => false
  | some e => decide (f e = f d)
def cen (c : Nat) : Bool := decide (1 ≤ c % 4 ∧ c % 4 ≤ 2 ∧ 1 ≤ c / 4 ∧ c / 4 ≤ 2)
/-- who is meant by word n -/
def mnt (c f : Nat → Nat) (n d : Nat) : Bool := match n with
  | 0 => true
  | 1 => decide (d / 2 % 2 = 0)
  | 2 => decide (d / 2 % 2 = 1)
  | 3 => decide (d % 2 = 0)
  | 4 => decide (d % 2 = 1)
  | 5 => cen (c d)
  | 6 => !cen (c d)
  | 7 => lik f d (bes c f d 3)
  | 8 => lik f d (bes c f d 1)
  | _ => false
/-- as bits -/
def mbI (p : Nat → Bool) : Nat → Int32
  | 0 => nI 0
  | n + 1 => match p n with
    | true => mbI p n ||| (nI 1 <<< (nI n &&& 31))
    | false => mbI p n
theorem mb_bits : ∀ b0 b1 b2 b3 b4 b5 b6 b7 : Bool, ∀ d, d < 8 → (decide ((mbI (fun j => [b0, b1, b2, b3, b4, b5, b6, b7].getD j false) 8 >>> (nI d &&& 31)) &&& nI 1 = nI 1) = [b0, b1, b2, b3, b4, b5, b6, b7].getD d false) := by decide +kernel
theorem mbI_ext {p q : Nat → Bool} : ∀ n, (∀ j, j < n → p j = q j) → mbI p n = mbI q n
  | 0, _ => rfl
  | n + 1, h => by
    unfold mbI
    rw [h n (by omega), mbI_ext n (fun j hj => h j (by omega))]
theorem mb_list (p : Nat → Bool) : ∀ j, j < 8 → p j = [p 0, p 1, p 2, p 3, p 4, p 5, p 6, p 7].getD j false := by
  intro j hj
  match j, hj with
  | 0, _ => rfl
  | 1, _ => rfl
  | 2, _ => rfl
  | 3, _ => rfl
  | 4, _ => rfl
  | 5, _ => rfl
  | 6, _ => rfl
  | 7, _ => rfl
theorem mb_bit (p : Nat → Bool) {d : Nat} (hd : d < 8) : ((mbI p 8 >>> (nI d &&& 31)) &&& nI 1 = nI 1) ↔ p d = true := by
  have h := mb_bits (p 0) (p 1) (p 2) (p 3) (p 4) (p 5) (p 6) (p 7) d hd
  rw [← mb_list p d hd, ← mbI_ext 8 (mb_list p)] at h
  rw [← h]
  simp
theorem mb_zeros : ∀ b0 b1 b2 b3 b4 b5 b6 b7 : Bool, decide (mbI (fun j => [b0, b1, b2, b3, b4, b5, b6, b7].getD j false) 8 = 0) = (!b0 && !b1 && !b2 && !b3 && !b4 && !b5 && !b6 && !b7) := by decide +kernel
theorem mb_zero (p : Nat → Bool) : mbI p 8 = 0 ↔ ∀ d, d < 8 → p d = false := by
  have h := mb_zeros (p 0) (p 1) (p 2) (p 3) (p 4) (p 5) (p 6) (p 7)
  rw [← mbI_ext 8 (mb_list p)] at h
  constructor
  · intro h1 d hd
    rw [h1] at h
    simp at h
    obtain ⟨⟨⟨⟨⟨⟨⟨a0, a1⟩, a2⟩, a3⟩, a4⟩, a5⟩, a6⟩, a7⟩ := h
    match d, hd with
    | 0, _ => exact a0
    | 1, _ => exact a1
    | 2, _ => exact a2
    | 3, _ => exact a3
    | 4, _ => exact a4
    | 5, _ => exact a5
    | 6, _ => exact a6
    | 7, _ => exact a7
  · intro h1
    rw [h1 0 (by decide), h1 1 (by decide), h1 2 (by decide), h1 3 (by decide), h1 4 (by decide), h1 5 (by decide), h1 6 (by decide), h1 7 (by decide)] at h
    simpa using h
