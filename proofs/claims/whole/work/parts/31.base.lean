/-! pure: running the specifications -/
theorem ck_in {β : Type} {i : Int32} {n : Nat} {k : Option β} (h : vp_in i n) : tg_ck i n k = k := if_neg h
theorem ck_nI {β : Type} {i n : Nat} {k : Option β} (h : i < n) (hn : n < 2 ^ 31) : tg_ck (nI i) n k = k := ck_in (vp_in_nI h hn)
theorem dz_ne {β : Type} {y : Int32} {k : Option β} (h : ¬ y = 0) : tg_dz y k = k := if_neg h
theorem bz_0 {β : Type} {k : Option β} : tg_bz 0 k = k := rfl
theorem bz_1 {β : Type} {k : Option β} : tg_bz 1 k = k := rfl
theorem bz_if {β : Type} {c : Prop} [Decidable c] {k : Option β} : tg_bz (if c then 1 else 0) k = k := by
  by_cases h : c
  · rw [if_pos h]; rfl
  · rw [if_neg h]; rfl
theorem b1_some {A Z : Type} {a : A} {k : A → Option Z} : tg_b1 (some a) k = k a := rfl
theorem b2_some {A B Z : Type} {a : A} {b : B} {k : A → B → Option Z} : tg_b2 (some (a, b)) k = k a b := rfl
theorem b3_some {A B C Z : Type} {a : A} {b : B} {c : C} {k : A → B → C → Option Z} : tg_b3 (some (a, b, c)) k = k a b c := rfl
theorem b4_some {A B C D Z : Type} {a : A} {b : B} {c : C} {d : D} {k : A → B → C → D → Option Z} : tg_b4 (some (a, b, c, d)) k = k a b c d := rfl
theorem b5_some {A B C D E Z : Type} {a : A} {b : B} {c : C} {d : D} {e : E} {k : A → B → C → D → E → Option Z} : tg_b5 (some (a, b, c, d, e)) k = k a b c d e := rfl
theorem nm_is {A Z : Type} {a : A} {k : A → Option Z} : tg_nm a k = k a := rfl
theorem cl_nI {n : Nat} (h : n < 2 ^ 31) : (nI n).toNatClampNeg = n := nI_clamp h
/-- the reference's 'in' -/
theorem in_iff (x : Int32) (A B : Int64) : fX5_in x.toInt64 A B = some (if A.toInt ≤ x.toInt ∧ x.toInt ≤ B.toInt then 1 else 0) := by
  unfold fX5_in lg_cmp
  simp only [gt_iff_lt, Int64.lt_iff_toInt_lt, ← Int64.toInt_inj, Int32.toInt_toInt64]
  by_cases h1 : x.toInt < A.toInt
  · rw [if_neg (by omega : ¬ A.toInt < x.toInt), if_neg (by omega : ¬ x.toInt = A.toInt), if_pos (by decide), if_neg (by omega)]
  · rw [if_neg (show ¬ (if A.toInt < x.toInt then (1 : Int32) else if x.toInt = A.toInt then 0 else -1) < 0 by
      by_cases h2 : A.toInt < x.toInt
      · rw [if_pos h2]; decide
      · rw [if_neg h2, if_pos (by omega)]; decide)]
    by_cases h3 : B.toInt < x.toInt
    · rw [if_pos h3, if_pos (by decide), if_neg (by omega)]
    · rw [if_neg h3]
      by_cases h4 : x.toInt = B.toInt
      · rw [if_pos h4, if_neg (by decide), if_pos (by omega)]
      · rw [if_neg h4, if_neg (by decide), if_pos (by omega)]
theorem tr_toInt {n : Nat} (h : n < 2 ^ 31) : (nI n).toInt = (n : Int) := nI_toInt h
theorem lt_toInt (x y : Int32) : x < y ↔ x.toInt < y.toInt := Int32.lt_iff_toInt_lt
theorem le_toInt (x y : Int32) : x ≤ y ↔ x.toInt ≤ y.toInt := Int32.le_iff_toInt_le
/-- an int between two numbers is one of them -/
theorem nI_mid {x : Int32} {a b : Nat} (h1 : (a : Int) ≤ x.toInt) (h2 : x.toInt ≤ (b : Int)) : ∃ n, a ≤ n ∧ n ≤ b ∧ n < 2 ^ 31 ∧ x = nI n := by
  obtain ⟨n, hn, rfl⟩ := nI_of (x := x) (by rw [lt_toInt]; show ¬ x.toInt < 0; omega)
  rw [tr_toInt hn] at h1 h2
  exact ⟨n, by omega, by omega, hn, rfl⟩
/-! bits -/
theorem bt_1 : ∀ i, i < 32 → bt 1 i = decide (i = 0) := by decide +kernel
theorem bt_bit {k i : Nat} (hk : k < 32) (hi : i < 32) : bt (1 <<< (nI k &&& 31)) i = decide (i = k) := by
  rw [b_shl k hk 1 hi]
  by_cases h : k ≤ i
  · rw [bt_1 _ (by omega)]
    by_cases h2 : i = k
    · subst h2; simp
    · rw [decide_eq_false (show ¬ i - k = 0 by omega), decide_eq_false h2, Bool.and_false]
  · rw [decide_eq_false h, decide_eq_false (show ¬ i = k by omega), Bool.false_and]
theorem bt_not (x : Int32) {i : Nat} (hi : i < 32) : bt (x ^^^ (-1)) i = !bt x i := by
  rw [b_xor, b_m1 i hi]; cases bt x i <;> rfl
theorem bt_zero {x : Int32} : x = 0 ↔ ∀ i, i < 32 → bt x i = false := ⟨fun h i _ => by rw [h, b_0], fun h => b_ext (fun i hi => by rw [h i hi, b_0])⟩
theorem bt_ne {x : Int32} : ¬ x = 0 ↔ ∃ i, i < 32 ∧ bt x i = true := by
  rw [bt_zero]
  constructor
  · intro h
    apply Classical.byContradiction
    intro h2
    exact h (fun i hi => by
      cases e : bt x i with
      | false => rfl
      | true => exact absurd ⟨i, hi, e⟩ h2)
  · rintro ⟨i, hi, h⟩ h2
    rw [h2 i hi] at h; cases h
/-- a bit by 'and' with one bit -/
theorem bt_has (x : Int32) {k : Nat} (hk : k < 32) : x &&& (1 <<< (nI k &&& 31)) = 0 ↔ bt x k = false := by
  rw [bt_zero]
  constructor
  · intro h
    have := h k hk
    rw [b_and, bt_bit hk hk] at this
    simpa using this
  · intro h i hi
    rw [b_and, bt_bit hk hi]
    by_cases e : i = k
    · subst e; rw [h]; rfl
    · rw [decide_eq_false e, Bool.and_false]
theorem bt_sh1 (x : Int32) {k : Nat} (hk : k < 32) : (x >>> (nI k &&& 31)) &&& 1 = if bt x k then 1 else 0 := by
  apply b_ext
  intro i hi
  rw [b_and, b_sshr k hk x hi, bt_1 i hi]
  by_cases h0 : i = 0
  · subst h0
    rw [if_pos (by omega), decide_eq_true rfl, Bool.and_true, Nat.add_zero]
    cases h : bt x k
    · rw [if_neg (by decide)]; rw [b_0]
    · rw [if_pos rfl]; exact (bt_1 0 (by decide)).symm
  · rw [decide_eq_false h0, Bool.and_false]
    cases h : bt x k
    · rw [if_neg (by decide)]; rw [b_0]
    · rw [if_pos rfl, bt_1 i hi, decide_eq_false h0]
/-! how many bits -/
def pcN : Nat → Nat → Nat
  | 0, _ => 0
  | f + 1, n => n % 2 + pcN f (n / 2)
theorem pcN_0 : ∀ f, pcN f 0 = 0
  | 0 => rfl
  | f + 1 => by rw [pcN]; simp [pcN_0 f]
/-- a number's bits, cut at k -/
theorem pcN_cut : ∀ (k f a b : Nat), a < 2 ^ k → pcN (k + f) (a + 2 ^ k * b) = pcN k a + pcN f b
  | 0, f, a, b, h => by
    have : a = 0 := by simpa using h
    subst this
    simp [pcN]
  | k + 1, f, a, b, h => by
    have e : k + 1 + f = (k + f) + 1 := by omega
    have hp : 2 ^ (k + 1) = 2 * 2 ^ k := by rw [Nat.pow_succ, Nat.mul_comm]
    rw [e, pcN, pcN]
    have e1 : (a + 2 ^ (k + 1) * b) % 2 = a % 2 := by rw [hp, Nat.mul_assoc, Nat.add_mul_mod_self_left]
    have e2 : (a + 2 ^ (k + 1) * b) / 2 = a / 2 + 2 ^ k * b := by rw [hp, Nat.mul_assoc, Nat.add_mul_div_left _ _ (by decide)]
    rw [e1, e2, pcN_cut k f (a / 2) b (by rw [hp] at h; omega)]
    omega
theorem land_cut {k a b c d : Nat} (ha : a < 2 ^ k) (hc : c < 2 ^ k) : (a + 2 ^ k * b) &&& (c + 2 ^ k * d) = (a &&& c) + 2 ^ k * (b &&& d) := by
  apply Nat.eq_of_testBit_eq
  intro i
  have hac : a &&& c < 2 ^ k := Nat.and_lt_two_pow _ hc
  rw [Nat.testBit_and, Nat.add_comm a, Nat.add_comm c, Nat.add_comm (a &&& c), Nat.testBit_two_pow_mul_add _ ha, Nat.testBit_two_pow_mul_add _ hc, Nat.testBit_two_pow_mul_add _ hac]
  by_cases h : i < k
  · simp [h, Nat.testBit_and]
  · simp [h, Nat.testBit_and]
theorem sw_1 : ∀ a, a < 256 → ∀ t, t < 2 → (a / 2 + 128 * t) &&& 85 = (a / 2) &&& 85 ∧ (a / 2) &&& 85 ≤ a := by decide +kernel
theorem sw_2 : ∀ a, a < 256 → ∀ t, t < 4 → (a / 4 + 64 * t) &&& 51 = (a / 4) &&& 51 := by decide +kernel
def sw_a (a : Nat) : Nat := a - ((a / 2) &&& 85)
def sw_b (a : Nat) : Nat := (sw_a a &&& 51) + ((sw_a a / 4) &&& 51)
def sw_c (a : Nat) : Nat := (sw_b a + sw_b a / 16) &&& 15
theorem sw_ok : ∀ a, a < 256 → sw_a a < 256 ∧ (sw_b a / 16 ≤ 4 ∧ sw_b a % 16 ≤ 4) ∧ sw_c a = pcN 8 a ∧ sw_c a ≤ 8 := by decide +kernel
/-! Integer.bitCount, byte by byte -/
theorem sw_byte4 {n : Nat} (hn : n < 2 ^ 32) : ∃ a b c d, a < 256 ∧ b < 256 ∧ c < 256 ∧ d < 256 ∧ n = a + 2 ^ 8 * (b + 2 ^ 8 * (c + 2 ^ 8 * d)) :=
  ⟨n % 256, n / 256 % 256, n / 65536 % 256, n / 16777216, by omega, by omega, by omega, by omega, by omega⟩
theorem sw_land {a b c d m : Nat} (ha : a < 256) (hb : b < 256) (hc : c < 256) (hd : d < 256) (hm : m < 256) : (a + 2 ^ 8 * (b + 2 ^ 8 * (c + 2 ^ 8 * d))) &&& (m + 2 ^ 8 * (m + 2 ^ 8 * (m + 2 ^ 8 * m))) = (a &&& m) + 2 ^ 8 * ((b &&& m) + 2 ^ 8 * ((c &&& m) + 2 ^ 8 * (d &&& m))) := by
  rw [land_cut ha hm, land_cut hb hm, land_cut hc hm]
theorem sw_and_le (a m : Nat) : a &&& m ≤ m := Nat.and_le_right
theorem bc_is (n : Nat) (hn : n < 2 ^ 32) : fJ6_bitCount_0f7a4 (nI n) = some (nI (pcN 32 n)) := by
  obtain ⟨a, b, c, d, ha, hb, hc, hd, rfl⟩ := sw_byte4 hn
  unfold fJ6_bitCount_0f7a4
  simp only [nm_is]
  -- first step
  have s1 : nI (a + 2 ^ 8 * (b + 2 ^ 8 * (c + 2 ^ 8 * d))) - (((nI (a + 2 ^ 8 * (b + 2 ^ 8 * (c + 2 ^ 8 * d)))).toUInt32 >>> (Int32.toUInt32 1 &&& Int32.toUInt32 31)).toInt32 &&& 1431655765) = nI (sw_a a + 2 ^ 8 * (sw_a b + 2 ^ 8 * (sw_a c + 2 ^ 8 * sw_a d))) := by
    rw [pk_ushrN hn 1 1 (by decide +kernel)]
    have e : (a + 2 ^ 8 * (b + 2 ^ 8 * (c + 2 ^ 8 * d))) / 2 ^ 1 = (a / 2 + 128 * (b % 2)) + 2 ^ 8 * ((b / 2 + 128 * (c % 2)) + 2 ^ 8 * ((c / 2 + 128 * (d % 2)) + 2 ^ 8 * (d / 2 + 128 * 0))) := by omega
    rw [e, show (1431655765 : Int32) = nI (85 + 2 ^ 8 * (85 + 2 ^ 8 * (85 + 2 ^ 8 * 85))) from rfl, fa_and, sw_land (by omega) (by omega) (by omega) (by omega) (by decide), (sw_1 a ha _ (by omega)).1, (sw_1 b hb _ (by omega)).1, (sw_1 c hc _ (by omega)).1, (sw_1 d hd 0 (by omega)).1]
    have h1 := (sw_1 a ha 0 (by omega)).2
    have h2 := (sw_1 b hb 0 (by omega)).2
    have h3 := (sw_1 c hc 0 (by omega)).2
    have h4 := (sw_1 d hd 0 (by omega)).2
    rw [pk_sub (by omega)]
    unfold sw_a
    congr 1
    omega
  rw [s1]
  obtain ⟨a1, a2, a3, a4⟩ := sw_ok a ha
  obtain ⟨b1, b2, b3, b4⟩ := sw_ok b hb
  obtain ⟨c1, c2, c3, c4⟩ := sw_ok c hc
  obtain ⟨d1, d2, d3, d4⟩ := sw_ok d hd
  have s2 : (nI (sw_a a + 2 ^ 8 * (sw_a b + 2 ^ 8 * (sw_a c + 2 ^ 8 * sw_a d))) &&& 858993459) + (((nI (sw_a a + 2 ^ 8 * (sw_a b + 2 ^ 8 * (sw_a c + 2 ^ 8 * sw_a d)))).toUInt32 >>> (Int32.toUInt32 2 &&& Int32.toUInt32 31)).toInt32 &&& 858993459) = nI (sw_b a + 2 ^ 8 * (sw_b b + 2 ^ 8 * (sw_b c + 2 ^ 8 * sw_b d))) := by
    rw [pk_ushrN (by omega) 2 2 (by decide +kernel)]
    have e : (sw_a a + 2 ^ 8 * (sw_a b + 2 ^ 8 * (sw_a c + 2 ^ 8 * sw_a d))) / 2 ^ 2 = (sw_a a / 4 + 64 * (sw_a b % 4)) + 2 ^ 8 * ((sw_a b / 4 + 64 * (sw_a c % 4)) + 2 ^ 8 * ((sw_a c / 4 + 64 * (sw_a d % 4)) + 2 ^ 8 * (sw_a d / 4 + 64 * 0))) := by omega
    rw [e, show (858993459 : Int32) = nI (51 + 2 ^ 8 * (51 + 2 ^ 8 * (51 + 2 ^ 8 * 51))) from rfl, fa_and, fa_and, sw_land a1 b1 c1 d1 (by decide), sw_land (by omega) (by omega) (by omega) (by omega) (by decide), sw_2 _ a1 _ (by omega), sw_2 _ b1 _ (by omega), sw_2 _ c1 _ (by omega), sw_2 _ d1 0 (by omega), nI_add]
    unfold sw_b
    congr 1
    omega
  rw [s2]
  have s3 : (nI (sw_b a + 2 ^ 8 * (sw_b b + 2 ^ 8 * (sw_b c + 2 ^ 8 * sw_b d))) + ((nI (sw_b a + 2 ^ 8 * (sw_b b + 2 ^ 8 * (sw_b c + 2 ^ 8 * sw_b d)))).toUInt32 >>> (Int32.toUInt32 4 &&& Int32.toUInt32 31)).toInt32) &&& 252645135 = nI (sw_c a + 2 ^ 8 * (sw_c b + 2 ^ 8 * (sw_c c + 2 ^ 8 * sw_c d))) := by
    rw [pk_ushrN (by omega) 4 4 (by decide +kernel), nI_add]
    have e : (sw_b a + 2 ^ 8 * (sw_b b + 2 ^ 8 * (sw_b c + 2 ^ 8 * sw_b d))) + (sw_b a + 2 ^ 8 * (sw_b b + 2 ^ 8 * (sw_b c + 2 ^ 8 * sw_b d))) / 2 ^ 4 = (sw_b a + sw_b a / 16 + 16 * (sw_b b % 16)) + 2 ^ 8 * ((sw_b b + sw_b b / 16 + 16 * (sw_b c % 16)) + 2 ^ 8 * ((sw_b c + sw_b c / 16 + 16 * (sw_b d % 16)) + 2 ^ 8 * (sw_b d + sw_b d / 16 + 16 * 0))) := by omega
    have m : ∀ x t : Nat, (x + x / 16 + 16 * t) &&& 15 = (x + x / 16) &&& 15 := fun x t => by
      rw [show 15 = 2 ^ 4 - 1 from rfl, Nat.and_two_pow_sub_one_eq_mod, Nat.and_two_pow_sub_one_eq_mod]; omega
    rw [e, show (252645135 : Int32) = nI (15 + 2 ^ 8 * (15 + 2 ^ 8 * (15 + 2 ^ 8 * 15))) from rfl, fa_and, sw_land (by omega) (by omega) (by omega) (by omega) (by decide), m, m, m, m]
    rfl
  rw [s3]
  have s4 : nI (sw_c a + 2 ^ 8 * (sw_c b + 2 ^ 8 * (sw_c c + 2 ^ 8 * sw_c d))) + ((nI (sw_c a + 2 ^ 8 * (sw_c b + 2 ^ 8 * (sw_c c + 2 ^ 8 * sw_c d)))).toUInt32 >>> (Int32.toUInt32 8 &&& Int32.toUInt32 31)).toInt32 = nI (sw_c a + sw_c b + 2 ^ 8 * (sw_c b + sw_c c + 2 ^ 8 * (sw_c c + sw_c d + 2 ^ 8 * sw_c d))) := by
    rw [pk_ushrN (by omega) 8 8 (by decide +kernel), nI_add]
    congr 1
    omega
  rw [s4]
  have s5 : nI (sw_c a + sw_c b + 2 ^ 8 * (sw_c b + sw_c c + 2 ^ 8 * (sw_c c + sw_c d + 2 ^ 8 * sw_c d))) + ((nI (sw_c a + sw_c b + 2 ^ 8 * (sw_c b + sw_c c + 2 ^ 8 * (sw_c c + sw_c d + 2 ^ 8 * sw_c d)))).toUInt32 >>> (Int32.toUInt32 16 &&& Int32.toUInt32 31)).toInt32 = nI (sw_c a + sw_c b + sw_c c + sw_c d + 64 * (4 * (sw_c b + sw_c c + sw_c d + 2 ^ 8 * (sw_c c + sw_c d + 2 ^ 8 * sw_c d)))) := by
    rw [pk_ushrN (by omega) 16 16 (by decide +kernel), nI_add]
    congr 1
    omega
  rw [s5, show (63 : Int32) = nI (2 ^ 6 - 1) from rfl, fa_mask]
  have e6 : (sw_c a + sw_c b + sw_c c + sw_c d + 64 * (4 * (sw_c b + sw_c c + sw_c d + 2 ^ 8 * (sw_c c + sw_c d + 2 ^ 8 * sw_c d)))) % 2 ^ 6 = sw_c a + sw_c b + sw_c c + sw_c d := by omega
  rw [e6, pcN_cut 8 24 a _ ha, pcN_cut 8 16 b _ hb, pcN_cut 8 8 c _ hc, a3, b3, c3, d3]
  congr 2
  omega
/-- the reference's count: each turn takes the lowest bit away -/
theorem pcN_le : ∀ f n, pcN f n ≤ f
  | 0, _ => Nat.le_refl 0
  | f + 1, n => by rw [pcN]; have := pcN_le f (n / 2); omega
theorem land2 (a b c d : Nat) (hb : b < 2) (hd : d < 2) : (b + 2 * a) &&& (d + 2 * c) = (b &&& d) + 2 * (a &&& c) := land_cut (k := 1) hb hd
theorem pcN_low : ∀ f n, n < 2 ^ f → 0 < n → pcN f n = pcN f (n &&& (n - 1)) + 1
  | 0, n, h, h0 => by simp at h; omega
  | f + 1, n, h, h0 => by
    have hp : 2 ^ (f + 1) = 2 * 2 ^ f := by rw [Nat.pow_succ, Nat.mul_comm]
    rcases Nat.mod_two_eq_zero_or_one n with e | e
    · have e1 : n &&& (n - 1) = 0 + 2 * ((n / 2) &&& (n / 2 - 1)) := by
        have := land2 (n / 2) 0 (n / 2 - 1) 1 (by decide) (by decide)
        rw [show 0 + 2 * (n / 2) = n by omega, show 1 + 2 * (n / 2 - 1) = n - 1 by omega] at this
        simpa using this
      rw [e1, pcN, pcN, pcN_low f (n / 2) (by omega) (by omega)]
      have e2 : (0 + 2 * (n / 2 &&& n / 2 - 1)) / 2 = n / 2 &&& n / 2 - 1 := by omega
      have e3 : (0 + 2 * (n / 2 &&& n / 2 - 1)) % 2 = 0 := by omega
      rw [e2, e3]; omega
    · have e1 : n &&& (n - 1) = 0 + 2 * (n / 2) := by
        have := land2 (n / 2) 1 (n / 2) 0 (by decide) (by decide)
        rw [show 1 + 2 * (n / 2) = n by omega, show 0 + 2 * (n / 2) = n - 1 by omega] at this
        rw [this, Nat.and_self]; rfl
      rw [e1, pcN, pcN]
      have e2 : (0 + 2 * (n / 2)) / 2 = n / 2 := by omega
      have e3 : (0 + 2 * (n / 2)) % 2 = 0 := by omega
      rw [e2, e3]; omega
theorem many_L (m n k : Nat) (hn : n < 2 ^ 32) (hk : pcN 32 n < m) : fX5_many_L4 m (nI k) (nI n) = some (nI (k + pcN 32 n), 0) := by
  induction m generalizing n k with
  | zero => omega
  | succ m ih =>
    rw [fX5_many_L4]
    by_cases h : n = 0
    · subst h
      rw [if_pos (by rfl), pcN_0]; rfl
    · have h1 : ¬ nI n = 0 := fun e => h (by
        have e2 : (nI n).toBitVec.toNat = (0 : Int32).toBitVec.toNat := by rw [e]
        rw [pk_tn hn] at e2
        exact e2)
      rw [if_neg h1]
      simp only [nm_is]
      rw [show (1 : Int32) = nI 1 from rfl, pk_sub (by omega), fa_and, nI_add]
      have h2 := pcN_low 32 n hn (by omega)
      have h3 : n &&& (n - 1) ≤ n := Nat.and_le_left
      rw [ih _ _ (by omega) (by omega), show k + 1 + pcN 32 (n &&& (n - 1)) = k + pcN 32 n by omega]
def PC (x : Int32) : Nat := pcN 32 x.toBitVec.toNat
theorem PC_le (x : Int32) : PC x ≤ 32 := pcN_le _ _
theorem as_nI (x : Int32) : x = nI x.toBitVec.toNat := Int32.toBitVec_inj.mp (by show _ = BitVec.ofNat 32 _; simp)
theorem bc_PC (x : Int32) : fJ6_bitCount_0f7a4 x = some (nI (PC x)) := by
  have := bc_is x.toBitVec.toNat x.toBitVec.isLt
  rw [← as_nI x] at this
  exact this
theorem many_PC (x : Int32) : fX5_many x = some (nI (PC x)) := by
  have := many_L 400 x.toBitVec.toNat 0 x.toBitVec.isLt (Nat.lt_of_le_of_lt (pcN_le _ _) (by decide))
  rw [← as_nI x] at this
  unfold fX5_many
  rw [show (0 : Int32) = nI 0 from rfl] at *
  rw [this, b2_some]
  show some (nI (0 + PC x)) = _
  rw [Nat.zero_add]
