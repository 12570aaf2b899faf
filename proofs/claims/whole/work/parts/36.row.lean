/-! NOW, on both sides: one row of nine numbers, one of twenty-seven -/
def tr_1 (nb g : Nat) (at_ now : Nat → Int32) : Prop :=
  (∀ q, q < 2 → ∀ i, i < 32 → bt (at_ q) i = decide (1 ≤ i ∧ i ≤ nb ∧ now (8 + i) = nI q)) ∧
  (∀ i, 1 ≤ i → i ≤ nb → now (8 + i) = -9 ∨ now (8 + i) = nI 0 ∨ now (8 + i) = nI 1) ∧
  (∀ q, q < 2 → ∃ v, v ≤ 999 ∧ at_ (2 + q) = nI v ∧ now (3 + q) = nI v) ∧
  (∀ q, q < 2 → ∃ v, v < 2 ∧ at_ (4 + q) = nI v ∧ now (5 + q) = nI v) ∧
  (∃ w, w < 2 ∧ at_ 6 = nI w ∧ now 1 = nI w) ∧
  ((at_ 8 = -9 ∧ now 2 = -9) ∨ ∃ a b c, (1 ≤ a ∧ a ≤ 9) ∧ (1 ≤ b ∧ b ≤ 9) ∧ (1 ≤ c ∧ c ≤ 9) ∧ at_ 8 = nI (100 * a + 10 * b + c) ∧ now 2 = nI (100 * a + 10 * b + c)) ∧
  (∃ p, p < 2 ∧ at_ 7 = nI p ∧ ((PC (at_ 0) < g ∧ PC (at_ 1) < g ∧ now 7 = -9 ∧ now 0 = nI p) ∨ ∃ q, q < 2 ∧ g ≤ PC (at_ q) ∧ PC (at_ (1 - q)) < g ∧ now 7 = nI q ∧ now 0 = -9 ∧ at_ 8 = -9))
theorem nI_m9 {n : Nat} (h : n < 2 ^ 31) : ¬ nI n = -9 := fun e => by
  have h1 := congrArg Int32.toInt e
  rw [tr_toInt h, show (-9 : Int32).toInt = -9 from rfl] at h1
  omega
section TR1
variable {nb g : Nat} {k : Nat → Nat} {pp : Nat → Nat → Nat} {t_pips t_many : Nat → Int32} {t_berths t_goal : Int32} {h at_ now : Nat → Int32}
theorem r1_berthsOf {q : Nat} (hq : q < 2) : fX1_berthsOf at_ (nI q) = some (at_ q) := by
  unfold fX1_berthsOf
  rw [show (0 : Int32) = nI 0 from rfl, nI_add, Nat.zero_add, ck_nI (by omega) (by decide), cl_nI (by omega)]
theorem r1_tidesOf {q : Nat} (hq : q < 2) : fX1_tidesOf at_ (nI q) = some (at_ (2 + q)) := by
  unfold fX1_tidesOf
  rw [show (2 : Int32) = nI 2 from rfl, nI_add, ck_nI (by omega) (by decide), cl_nI (by omega)]
theorem r1_isBlind (R : tr_1 nb g at_ now) {q : Nat} (hq : q < 2) : fX1_isBlind at_ (nI q) = some (at_ (4 + q)) := by
  obtain ⟨v, hv, e, -⟩ := R.2.2.2.1 q hq
  unfold fX1_isBlind
  rw [show (4 : Int32) = nI 4 from rfl, nI_add, ck_nI (by omega) (by decide), cl_nI (by omega), e]
  rcases (show v = 0 ∨ v = 1 by omega) with rfl | rfl
  · rfl
  · rfl
theorem r1_winner (R : tr_1 nb g at_ now) (hg : g ≤ 9) : fX1_winner at_ (nI g) = some (now 7) := by
  obtain ⟨p, hp, -, hc⟩ := R.2.2.2.2.2.2
  unfold fX1_winner
  rw [show (400 : Nat) = 397 + 1 + 1 + 1 from rfl, fX1_winner_L2, if_neg (by decide), show fX1_berthsOf at_ 0 = _ from r1_berthsOf (q := 0) (by decide), b1_some, bc_PC, b1_some]
  have l0 := PC_le (at_ 0)
  have l1 := PC_le (at_ 1)
  have hstep : g ≤ 9 := hg
  rcases hc with ⟨h0, h1, e, -⟩ | ⟨q, hq, h0, h1, e, -⟩
  · rw [if_pos (nI_lt h0 (by omega)), nm_is, fX1_winner_L2, if_neg (by decide), show fX1_berthsOf at_ (0 + 1) = _ from r1_berthsOf (q := 1) (by decide), b1_some, bc_PC, b1_some, if_pos (nI_lt h1 (by omega)), nm_is, fX1_winner_L2, if_pos (by decide), e]
  · rcases (show q = 0 ∨ q = 1 by omega) with rfl | rfl
    · rw [if_neg (nI_nlt h0 (by omega)), e]; rfl
    · rw [if_pos (nI_lt h1 (by omega)), nm_is, fX1_winner_L2, if_neg (by decide), show fX1_berthsOf at_ (0 + 1) = _ from r1_berthsOf (q := 1) (by decide), b1_some, bc_PC, b1_some, if_neg (nI_nlt h0 (by omega)), e]; rfl
theorem r1_who (R : tr_1 nb g at_ now) (hg : g ≤ 9) : fX1_whoMoves at_ (nI g) = some (now 0) := by
  unfold fX1_whoMoves
  rw [r1_winner R hg, b1_some]
  obtain ⟨p, hp, e7, hc⟩ := R.2.2.2.2.2.2
  rcases hc with ⟨-, -, e, e0⟩ | ⟨q, hq, -, -, e, e0, -⟩
  · rw [e, if_neg (fun q => q rfl), e0, e7]
  · rw [e, if_pos (nI_m9 (by omega)), e0]
theorem r1_isWon (R : tr_1 nb g at_ now) : fX5_isWon now = some (if now 7 = -9 then 0 else 1) := by
  unfold fX5_isWon
  split <;> rfl
/-- the reference's set of a player's berths -/
theorem r1_berthsL (h0 : h 0 = nI nb) (hnb : nb ≤ 18) {q : Nat} : ∀ (m j : Nat) (acc : Int32), 1 ≤ j → j ≤ nb + 1 → nb + 2 ≤ j + m → ∃ x, fX5_berths_L4 h now (nI q) m acc (nI j) = some (x, nI (nb + 1)) ∧ ∀ i, i < 32 → bt x i = (bt acc i || decide (j ≤ i ∧ i ≤ nb ∧ now (8 + i) = nI q))
  | 0, j, acc, h1, h2, h3 => by omega
  | m + 1, j, acc, h1, h2, h3 => by
    rw [fX5_berths_L4, h0]
    by_cases hj : nb < j
    · rw [if_pos (nI_lt hj (by omega))]
      have : j = nb + 1 := by omega
      subst this
      refine ⟨acc, rfl, fun i hi => ?_⟩
      rw [decide_eq_false (by omega), Bool.or_false]
    · rw [if_neg (nI_nlt (by omega) (by omega)), show (8 : Int32) = nI 8 from rfl, nI_add, ck_nI (by omega) (by decide), cl_nI (by omega)]
      have hv : (if ¬ now (8 + j) = nI q then some (0 : Int32) else some (1 <<< (nI j &&& 31))) = some (if now (8 + j) = nI q then 1 <<< (nI j &&& 31) else 0) := by
        by_cases e : now (8 + j) = nI q
        · rw [if_neg (fun z => z e), if_pos e]
        · rw [if_pos e, if_neg e]
      rw [hv, b1_some, nm_is, nm_is, nI_1]
      obtain ⟨x, e, gx⟩ := r1_berthsL h0 hnb m (j + 1) (acc ||| (if now (8 + j) = nI q then 1 <<< (nI j &&& 31) else 0)) (by omega) (by omega) (by omega)
      refine ⟨x, e, fun i hi => ?_⟩
      rw [gx i hi, b_or]
      by_cases hij : i = j
      · subst hij
        rw [decide_eq_false (show ¬ (i + 1 ≤ i ∧ i ≤ nb ∧ now (8 + i) = nI q) by omega), Bool.or_false]
        by_cases e2 : now (8 + i) = nI q
        · rw [if_pos e2, bt_bit (by omega) hi, decide_eq_true (show i ≤ i ∧ i ≤ nb ∧ now (8 + i) = nI q from ⟨Nat.le_refl _, by omega, e2⟩), decide_eq_true rfl]
        · rw [if_neg e2, b_0, decide_eq_false (fun z => e2 z.2.2)]
      · have e1 : decide (j + 1 ≤ i ∧ i ≤ nb ∧ now (8 + i) = nI q) = decide (j ≤ i ∧ i ≤ nb ∧ now (8 + i) = nI q) := decide_eq_decide.mpr ⟨fun z => ⟨by omega, z.2⟩, fun z => ⟨by omega, z.2⟩⟩
        rw [e1]
        by_cases e2 : now (8 + j) = nI q
        · rw [if_pos e2, bt_bit (by omega) hi, decide_eq_false hij, Bool.or_false]
        · rw [if_neg e2, b_0, Bool.or_false]
theorem r1_berths (R : tr_1 nb g at_ now) (h0 : h 0 = nI nb) (hnb : nb ≤ 18) {q : Nat} (hq : q < 2) : fX5_berths h now (nI q) = some (at_ q) := by
  obtain ⟨x, e, gx⟩ := r1_berthsL (now := now) h0 hnb (q := q) 400 1 0 (by omega) (by omega) (by omega)
  have : x = at_ q := b_ext (fun i hi => by rw [gx i hi, b_0, Bool.false_or, R.1 q hq i hi])
  subst this
  unfold fX5_berths
  exact (congrArg (fun o => tg_b2 o _) e).trans rfl
theorem r1_owned : fX1_owned at_ = some (at_ 0 ||| at_ 1) := by
  unfold fX1_owned
  rw [show fX1_berthsOf at_ 0 = _ from r1_berthsOf (q := 0) (by decide), b1_some, show fX1_berthsOf at_ 1 = _ from r1_berthsOf (q := 1) (by decide), b1_some]
theorem r1_freeC : fX1_free at_ = some ((at_ 0 ||| at_ 1) ^^^ (-1)) := by
  unfold fX1_free
  rw [r1_owned, b1_some]
theorem r1_taken (R : tr_1 nb g at_ now) (h0 : h 0 = nI nb) (hnb : nb ≤ 18) : fX5_taken h now = some (at_ 0 ||| at_ 1) := by
  unfold fX5_taken
  rw [show fX5_berths h now 0 = _ from r1_berths R h0 hnb (q := 0) (by decide), b1_some, show fX5_berths h now 1 = _ from r1_berths R h0 hnb (q := 1) (by decide), b1_some]
/-- all berths, as bits -/
theorem r1_full : ∀ nb, nb ≤ 18 → ∀ i, i < 32 → bt ((1 <<< (nI (nb + 1) &&& 31)) - 2) i = decide (1 ≤ i ∧ i ≤ nb) := by decide +kernel
theorem r1_freeM (R : tr_1 nb g at_ now) (h0 : h 0 = nI nb) (hnb : nb ≤ 18) : ∃ x, fX5_free h now = some x ∧ ∀ i, i < 32 → bt x i = (decide (1 ≤ i ∧ i ≤ nb) && !(bt (at_ 0) i || bt (at_ 1) i)) := by
  unfold fX5_free
  rw [r1_taken R h0 hnb, b1_some, h0, nI_1]
  refine ⟨_, rfl, fun i hi => ?_⟩
  rw [b_and, r1_full nb hnb i hi, bt_not _ hi, b_or]
/-- the digits of a throw -/
theorem r1_digits {a b c : Nat} (ha : 1 ≤ a ∧ a ≤ 9) (hb : 1 ≤ b ∧ b ≤ 9) (hc : 1 ≤ c ∧ c ≤ 9) : nI (100 * a + 10 * b + c) / 100 = nI a ∧ nI (100 * a + 10 * b + c) / 10 - nI (100 * a + 10 * b + c) / 10 / 10 * 10 = nI b ∧ nI (100 * a + 10 * b + c) - nI (100 * a + 10 * b + c) / 10 * 10 = nI c := by
  rw [show (100 : Int32) = nI 100 from rfl, show (10 : Int32) = nI 10 from rfl]
  refine ⟨?_, ?_, ?_⟩
  · rw [pk_div (by omega) (by decide) (by decide), show (100 * a + 10 * b + c) / 100 = a by omega]
  · rw [pk_div (by omega) (by decide) (by decide), pk_rem (by omega) (by decide) (by decide), show (100 * a + 10 * b + c) / 10 % 10 = b by omega]
  · rw [pk_rem (by omega) (by decide) (by decide), show (100 * a + 10 * b + c) % 10 = c by omega]
theorem r1_lies (R : tr_1 nb g at_ now) : fX1_lies at_ = some (if now 2 = -9 then 0 else 1) := by
  unfold fX1_lies
  rcases R.2.2.2.2.2.1 with ⟨e1, e2⟩ | ⟨a, b, c, ha, hb, hc, e1, e2⟩
  · rw [e1, e2]; rfl
  · rw [e1, e2]
    split <;> rfl
/-- what is open, alike; all of it among the berths, none of it anybody's -/
theorem r1_open (R : tr_1 nb g at_ now) (h0 : h 0 = nI nb) (hnb : nb ≤ 18) : ∃ x, fX1_open at_ (nI nb) = some x ∧ fX5_open h now = some x ∧ (∀ i, i < 32 → bt x i = true → 1 ≤ i ∧ i ≤ nb ∧ now (8 + i) = -9) ∧ (now 2 = -9 → x = 0) := by
  unfold fX1_open fX5_open
  rw [r1_lies R, b1_some, nm_is]
  obtain ⟨w, hw, w1, w2⟩ := R.2.2.2.2.1
  rcases R.2.2.2.2.2.1 with ⟨e1, e2⟩ | ⟨a, b, c, ha, hb, hc, e1, e2⟩
  · rw [if_pos e2, if_neg (fun q => q rfl), if_neg (fun q => q e2)]
    exact ⟨0, rfl, rfl, (fun i hi hb => by rw [b_0] at hb; cases hb), fun _ => rfl⟩
  · obtain ⟨d1, d2, d3⟩ := r1_digits ha hb hc
    have hne : ¬ now 2 = -9 := by rw [e2]; exact nI_m9 (by omega)
    rw [if_neg hne, if_pos (by decide), if_pos hne]
    unfold fX1_shown fX1_wind
    rw [b1_some, b1_some, e1, e2, d1, d2, d3, w1, w2, tr_O_x ha hb hc hnb hw, b1_some, r1_freeC, b1_some, tr_O_m ha hb hc hnb hw h0, b1_some, r1_taken R h0 hnb, b1_some]
    refine ⟨_, rfl, rfl, fun i hi hb' => ?_, fun e => absurd e (nI_m9 (by omega))⟩
    rw [b_and, bt_not _ hi, b_or, R.1 0 (by decide) i hi, R.1 1 (by decide) i hi] at hb'
    simp only [Bool.and_eq_true, Bool.not_eq_true', Bool.or_eq_false_iff, decide_eq_false_iff_not] at hb'
    obtain ⟨g1, g2, g3⟩ := hb'
    obtain ⟨g4, g5⟩ := tr_O_in ha hb hc hnb hw hi g1
    refine ⟨g4, g5, ?_⟩
    rcases R.2.1 i g4 g5 with q | q | q
    · exact q
    · exact absurd ⟨g4, g5, q⟩ g2
    · exact absurd ⟨g4, g5, q⟩ g3
end TR1
