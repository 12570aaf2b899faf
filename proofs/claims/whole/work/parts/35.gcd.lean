/-! least terms -/
theorem tr_half {b r : Nat} (h0 : 0 < r) (hr : r < b) {kk : Nat} (hb : b < 2 ^ (kk + 1)) : b % r < 2 ^ kk := by
  have hp : 2 ^ (kk + 1) = 2 * 2 ^ kk := by rw [Nat.pow_succ, Nat.mul_comm]
  have h1 := Nat.mod_lt b h0
  have h2 := Nat.div_add_mod b r
  have h3 : 1 ≤ b / r := Nat.div_pos (Nat.le_of_lt hr) h0
  have h4 : r * 1 ≤ r * (b / r) := Nat.mul_le_mul_left r h3
  omega
theorem tr_gcdC : ∀ (kk m a b st : Nat), b < 2 ^ kk → a < 2 ^ 31 → b < 2 ^ 31 → 2 * kk + 1 ≤ m → st + 2 * kk < 100 → ∃ u v, fX4_commonOf_L7 m (nI a) (nI b) (nI st) = some (nI (Nat.gcd a b), u, v)
  | 0, m, a, b, st, h1, h2, h3, h4, h5 => by
    obtain ⟨m, rfl⟩ : ∃ q, m = q + 1 := ⟨m - 1, by omega⟩
    have : b = 0 := by simpa using h1
    subst this
    rw [fX4_commonOf_L7, show (100 : Int32) = nI 100 from rfl, if_neg (nI_ge (by omega) (by decide)), if_pos (by rfl), Nat.gcd_zero_right]
    exact ⟨_, _, rfl⟩
  | kk + 1, m, a, b, st, h1, h2, h3, h4, h5 => by
    obtain ⟨m, rfl⟩ : ∃ q, m = q + 1 + 1 := ⟨m - 2, by omega⟩
    rw [fX4_commonOf_L7, show (100 : Int32) = nI 100 from rfl, if_neg (nI_ge (by omega) (by decide))]
    by_cases hb : b = 0
    · subst hb
      rw [if_pos (by rfl), Nat.gcd_zero_right]
      exact ⟨_, _, rfl⟩
    · have hb0 : 0 < b := by omega
      have hr := Nat.mod_lt a hb0
      rw [if_neg (nI_ne0 hb0 h3), dz_ne (nI_ne0 hb0 h3), nm_is, pk_rem h2 hb0 h3, nm_is, nI_1, fX4_commonOf_L7, show (100 : Int32) = nI 100 from rfl, if_neg (nI_ge (by omega) (by decide))]
      have hg : Nat.gcd a b = Nat.gcd b (a % b) := by rw [Nat.gcd_comm a b, Nat.gcd_rec b a, Nat.gcd_comm]
      by_cases h0 : a % b = 0
      · rw [hg, h0, if_pos (by rfl), Nat.gcd_zero_right]
        exact ⟨_, _, rfl⟩
      · have hr0 : 0 < a % b := by omega
        rw [if_neg (nI_ne0 hr0 (by omega)), dz_ne (nI_ne0 hr0 (by omega)), nm_is, pk_rem h3 hr0 (by omega), nm_is, nI_1]
        have hg2 : Nat.gcd b (a % b) = Nat.gcd (a % b) (b % (a % b)) := by rw [Nat.gcd_comm b, Nat.gcd_rec (a % b) b, Nat.gcd_comm]
        rw [hg, hg2]
        have hlt := tr_half hr0 hr h1
        exact tr_gcdC kk m (a % b) (b % (a % b)) (st + 1 + 1) hlt (by omega) (by have := Nat.mod_lt b hr0; omega) (by omega) (by omega)
theorem tr_gcdM : ∀ (kk m a b : Nat), b < 2 ^ kk → a < 2 ^ 31 → b < 2 ^ 31 → 2 * kk + 1 ≤ m → ∃ u, fX5_least_L5 m (nI a) (nI b) = some (nI (Nat.gcd a b), u)
  | 0, m, a, b, h1, h2, h3, h4 => by
    obtain ⟨m, rfl⟩ : ∃ q, m = q + 1 := ⟨m - 1, by omega⟩
    have : b = 0 := by simpa using h1
    subst this
    rw [fX5_least_L5, if_pos (by rfl), Nat.gcd_zero_right]
    exact ⟨_, rfl⟩
  | kk + 1, m, a, b, h1, h2, h3, h4 => by
    obtain ⟨m, rfl⟩ : ∃ q, m = q + 1 + 1 := ⟨m - 2, by omega⟩
    rw [fX5_least_L5]
    by_cases hb : b = 0
    · subst hb
      rw [if_pos (by rfl), Nat.gcd_zero_right]
      exact ⟨_, rfl⟩
    · have hb0 : 0 < b := by omega
      have hr := Nat.mod_lt a hb0
      rw [if_neg (nI_ne0 hb0 h3), dz_ne (nI_ne0 hb0 h3), nm_is, pk_rem h2 hb0 h3, fX5_least_L5]
      have hg : Nat.gcd a b = Nat.gcd b (a % b) := by rw [Nat.gcd_comm a b, Nat.gcd_rec b a, Nat.gcd_comm]
      by_cases h0 : a % b = 0
      · rw [hg, h0, if_pos (by rfl), Nat.gcd_zero_right]
        exact ⟨_, rfl⟩
      · have hr0 : 0 < a % b := by omega
        rw [if_neg (nI_ne0 hr0 (by omega)), dz_ne (nI_ne0 hr0 (by omega)), nm_is, pk_rem h3 hr0 (by omega)]
        have hg2 : Nat.gcd b (a % b) = Nat.gcd (a % b) (b % (a % b)) := by rw [Nat.gcd_comm b, Nat.gcd_rec (a % b) b, Nat.gcd_comm]
        rw [hg, hg2]
        have hlt := tr_half hr0 hr h1
        exact tr_gcdM kk m (a % b) (b % (a % b)) hlt (by omega) (by have := Nat.mod_lt b hr0; omega) (by omega)
/-- both answer the same part of the fraction -/
theorem tr_part {u v : Nat} (hu : u < 2 ^ 31) (hv : 0 < v) (hv2 : v < 2 ^ 14) {p : Int32} (hp : p = 0 ∨ p = 1) : ∃ r, fX4_partOf (nI u) (nI v) p = some r ∧ fX5_least (nI u) (nI v) p = some r := by
  obtain ⟨x, y, e1⟩ := tr_gcdC 14 400 u v 0 hv2 hu (by omega) (by omega) (by omega)
  obtain ⟨z, e2⟩ := tr_gcdM 14 400 u v hv2 hu (by omega) (by omega)
  have hg : 0 < Nat.gcd u v := Nat.gcd_pos_of_pos_right u hv
  have hgl : Nat.gcd u v ≤ v := Nat.gcd_le_right u hv
  have c1 : fX4_commonOf (nI u) (nI v) = some (nI (Nat.gcd u v)) := by
    unfold fX4_commonOf
    exact (congrArg (fun o => tg_b3 o _) e1).trans rfl
  unfold fX4_partOf fX5_least
  rw [c1, b1_some, e2, b2_some]
  simp only [dz_ne (nI_ne0 hg (show Nat.gcd u v < 2 ^ 31 by omega)), if_pos (nI_ne0 hg (show Nat.gcd u v < 2 ^ 31 by omega))]
  rcases hp with rfl | rfl
  · exact ⟨_, rfl, rfl⟩
  · exact ⟨_, rfl, rfl⟩
theorem tr_isPart (p : Int32) : fX4_isPart p = some (if p = 0 ∨ p = 1 then 1 else 0) := by
  unfold fX4_isPart
  by_cases h0 : p = 0
  · rw [if_pos h0, if_pos (Or.inl h0)]
  · rw [if_neg h0]
    by_cases h1 : p = 1
    · rw [if_neg (fun q => q h1), if_pos (Or.inr h1)]
    · rw [if_pos h1, if_neg (fun q => q.elim h0 h1)]
theorem tr_in01 (p : Int32) : fX5_in p.toInt64 0 1 = some (if p = 0 ∨ p = 1 then 1 else 0) := by
  rw [in_iff]
  congr 1
  have h0 : ((0 : Int64).toInt ≤ p.toInt ∧ p.toInt ≤ (1 : Int64).toInt) ↔ (p = 0 ∨ p = 1) := by
    rw [show (0 : Int64).toInt = 0 from rfl, show (1 : Int64).toInt = 1 from rfl, ← Int32.toInt_inj, ← Int32.toInt_inj, show (0 : Int32).toInt = 0 from rfl, show (1 : Int32).toInt = 1 from rfl]
    omega
  by_cases h : p = 0 ∨ p = 1
  · rw [if_pos (h0.mpr h), if_pos h]
  · rw [if_neg (fun q => h (h0.mp q)), if_neg h]
