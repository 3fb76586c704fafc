/-! ===== squares as numbers ===== -/
theorem wq_tb (n : Nat) : (lN n).toBitVec = BitVec.ofNat 64 n := rfl
theorem wq_c : ∀ k, k < 64 → ((nI k).toInt64 &&& 63) = lN k := by decide +kernel
theorem wq_sm : ∀ k, k < 64 → (BitVec.ofNat 64 k).smod 64 = BitVec.ofNat 64 k := by decide +kernel
theorem wq_shl (n : Nat) {k : Nat} (hk : k < 64) : lN n <<< ((nI k).toInt64 &&& 63) = lN (n * 2 ^ k) := by
  rw [wq_c k hk]
  apply Int64.toBitVec_inj.mp
  rw [Int64.toBitVec_shiftLeft, wq_tb, wq_tb, wq_tb, wq_sm k hk]
  apply BitVec.eq_of_toNat_eq
  rw [BitVec.shiftLeft_eq', BitVec.toNat_shiftLeft, BitVec.toNat_ofNat, BitVec.toNat_ofNat, BitVec.toNat_ofNat, Nat.mod_eq_of_lt (show k < 2 ^ 64 by omega), Nat.shiftLeft_eq, Nat.mul_mod, Nat.mod_mod, ← Nat.mul_mod]
theorem wq_or {a b : Nat} (ha : a < 2 ^ 64) (hb : b < 2 ^ 64) : lN a ||| lN b = lN (a ||| b) := by
  apply Int64.toBitVec_inj.mp
  rw [Int64.toBitVec_or, wq_tb, wq_tb, wq_tb]
  apply BitVec.eq_of_toNat_eq
  rw [BitVec.toNat_or, BitVec.toNat_ofNat, BitVec.toNat_ofNat, BitVec.toNat_ofNat, Nat.mod_eq_of_lt ha, Nat.mod_eq_of_lt hb, Nat.mod_eq_of_lt (Nat.or_lt_two_pow ha hb)]
theorem wq_shr {n k : Nat} (hn : n < 2 ^ 63) (hk : k < 64) : lN n >>> ((nI k).toInt64 &&& 63) = lN (n / 2 ^ k) := by
  rw [wq_c k hk]
  apply Int64.toBitVec_inj.mp
  rw [Int64.toBitVec_shiftRight, wq_tb, wq_tb, wq_tb, wq_sm k hk]
  have hm : (BitVec.ofNat 64 n).msb = false := by
    rw [BitVec.msb_eq_decide, BitVec.toNat_ofNat, Nat.mod_eq_of_lt (by omega)]
    exact decide_eq_false (by omega)
  rw [BitVec.sshiftRight', BitVec.sshiftRight_eq_of_msb_false hm]
  apply BitVec.eq_of_toNat_eq
  rw [BitVec.toNat_ushiftRight, BitVec.toNat_ofNat, BitVec.toNat_ofNat, BitVec.toNat_ofNat, Nat.mod_eq_of_lt (show k < 2 ^ 64 by omega), Nat.mod_eq_of_lt (show n < 2 ^ 64 by omega), Nat.shiftRight_eq_div_pow, Nat.mod_eq_of_lt]
  exact Nat.lt_of_le_of_lt (Nat.div_le_self _ _) (by omega)
theorem wq_32 (n : Nat) : (lN n).toInt32.toBitVec.toNat = n % 2 ^ 32 := by
  rw [Int64.toBitVec_toInt32, BitVec.signExtend_eq_setWidth_of_le _ (by decide), BitVec.toNat_setWidth, wq_tb, BitVec.toNat_ofNat]
  omega
def pkV (v : Nat → Nat) : Nat → Nat
  | 0 => 0
  | n + 1 => 2 ^ (6 * n) * v n + pkV v n
theorem pkV_lt {v : Nat → Nat} : ∀ n, (∀ j, j < n → v j < 64) → pkV v n < 2 ^ (6 * n)
  | 0, _ => Nat.one_pos
  | n + 1, h => by
    have h1 := pkV_lt n (fun j hj => h j (by omega))
    have h2 := h n (by omega)
    have h3 : 2 ^ (6 * (n + 1)) = 2 ^ (6 * n) * 64 := by rw [show 6 * (n + 1) = 6 * n + 6 by omega, Nat.pow_add]
    rw [h3]
    unfold pkV
    have h4 : 2 ^ (6 * n) * v n ≤ 2 ^ (6 * n) * 63 := Nat.mul_le_mul_left _ (by omega)
    omega
theorem pkV_at {v : Nat → Nat} {d : Nat} : ∀ n, (∀ j, j < n → v j < 64) → d < n → pkV v n / 2 ^ (6 * d) % 64 = v d
  | 0, _, h => absurd h (by omega)
  | n + 1, h, hd => by
    have h1 := pkV_lt n (fun j hj => h j (by omega))
    unfold pkV
    by_cases e : d = n
    · subst e
      rw [Nat.mul_add_div (Nat.two_pow_pos _), Nat.div_eq_of_lt h1, Nat.add_zero]
      exact Nat.mod_eq_of_lt (h d (by omega))
    · rw [← pkV_at n (fun j hj => h j (by omega)) (show d < n by omega)]
      have h3 : 2 ^ (6 * n) * v n = 2 ^ (6 * d) * (64 * (2 ^ (6 * n - 6 * d - 6) * v n)) := by
        rw [show (64 : Nat) = 2 ^ 6 from rfl, ← Nat.mul_assoc, ← Nat.mul_assoc, ← Nat.pow_add, ← Nat.pow_add]
        congr 2
        omega
      rw [h3, Nat.mul_add_div (Nat.two_pow_pos _), Nat.mul_add_mod]
theorem pkR_V {a b : Nat → Nat} : ∀ n, n ≤ 8 → (∀ j, j < n → a j < 16 ∧ b j < 4) → pkR (fun j => nI (a j)) (fun j => nI (b j)) n = lN (pkV (fun j => 4 * a j + b j) n)
  | 0, _, _ => rfl
  | n + 1, hn, h => by
    obtain ⟨h1, h2⟩ := h n (by omega)
    have h3 := pkV_lt (v := fun j => 4 * a j + b j) n (fun j hj => by have := h j (by omega); omega)
    have h4 : 2 ^ (6 * n) ≤ 2 ^ 42 := Nat.pow_le_pow_right (by decide) (by omega)
    have h5 : 2 ^ (6 * n) * (4 * a n + b n) ≤ 2 ^ 42 * 64 := Nat.mul_le_mul h4 (by omega)
    unfold pkR pkV
    rw [pkR_V n (by omega) (fun j hj => h j (by omega)), pk_mul, nI_add, nI_l (by omega), wq_shl _ (by omega), wq_or (by omega) (by rw [Nat.mul_comm]; omega), Nat.or_comm, Nat.mul_comm, ← Nat.two_pow_add_eq_or_of_lt h3]
theorem pkI_V {a b : Nat → Nat} : ∀ n, n ≤ 8 → (∀ j, j < n → a j < 16 ∧ b j < 4) → pkI (fun j => nI (a j)) (fun j => nI (b j)) n = lN (pkV (fun j => a j + 16 * b j) n)
  | 0, _, _ => rfl
  | n + 1, hn, h => by
    obtain ⟨h1, h2⟩ := h n (by omega)
    have h3 := pkV_lt (v := fun j => a j + 16 * b j) n (fun j hj => by have := h j (by omega); omega)
    have h4 : 2 ^ (6 * n) ≤ 2 ^ 42 := Nat.pow_le_pow_right (by decide) (by omega)
    have h5 : 2 ^ (6 * n) * (a n + 16 * b n) ≤ 2 ^ 42 * 64 := Nat.mul_le_mul h4 (by omega)
    unfold pkI pkV
    rw [pkI_V n (by omega) (fun j hj => h j (by omega)), pk_mul, pk_mul, nI_add, nI_l (by omega), wq_shl _ (by omega), wq_or (by omega) (by rw [Nat.mul_comm]; omega), Nat.or_comm, Nat.mul_comm, ← Nat.two_pow_add_eq_or_of_lt h3]
theorem rqn_pk {a b : Nat → Nat} (h : Val a b) {d : Nat} (hd : d < 8) : rqn (pkR (fun j => nI (a j)) (fun j => nI (b j)) 8) d = 4 * a d + b d := by
  have hv : ∀ j, j < 8 → 4 * a j + b j < 64 := fun j hj => by have := h j hj; omega
  have h1 := pkV_lt (v := fun j => 4 * a j + b j) 8 hv
  have h2 := pkV_at (v := fun j => 4 * a j + b j) 8 hv hd
  unfold rqn
  rw [pkR_V 8 (Nat.le_refl _) h, wq_shr (by omega) (by omega), wq_32]
  omega
theorem rqc_pk {a b : Nat → Nat} (h : Val a b) {d : Nat} (hd : d < 8) : rqc (pkR (fun j => nI (a j)) (fun j => nI (b j)) 8) d = a d := by
  have := h d hd
  unfold rqc
  rw [rqn_pk h hd]
  omega
theorem rqf_pk {a b : Nat → Nat} (h : Val a b) {d : Nat} (hd : d < 8) : rqf (pkR (fun j => nI (a j)) (fun j => nI (b j)) 8) d = b d := by
  have := h d hd
  unfold rqf
  rw [rqn_pk h hd]
  omega
theorem sqc_pk {a b : Nat → Nat} (h : Val a b) {d : Nat} (hd : d < 8) : sqc (pkI (fun j => nI (a j)) (fun j => nI (b j)) 8) d = a d := by
  have hv : ∀ j, j < 8 → a j + 16 * b j < 64 := fun j hj => by have := h j hj; omega
  have h1 := pkV_lt (v := fun j => a j + 16 * b j) 8 hv
  have h2 := pkV_at (v := fun j => a j + 16 * b j) 8 hv hd
  have h3 := h d hd
  unfold sqc
  rw [pkI_V 8 (Nat.le_refl _) h, wq_shr (by omega) (by omega), wq_32]
  omega
theorem sqf_pk {a b : Nat → Nat} (h : Val a b) {d : Nat} (hd : d < 8) : sqf (pkI (fun j => nI (a j)) (fun j => nI (b j)) 8) d = b d := by
  have hv : ∀ j, j < 8 → a j + 16 * b j < 64 := fun j hj => by have := h j hj; omega
  have h1 := pkV_lt (v := fun j => a j + 16 * b j) 8 hv
  have h2 := pkV_at (v := fun j => a j + 16 * b j) 8 hv hd
  have h3 := h d hd
  unfold sqf
  rw [pkI_V 8 (Nat.le_refl _) h, wq_shr (by omega) (by omega), wq_32]
  rw [Nat.pow_add, ← Nat.div_div_eq_div_mul]
  omega
