/-! the harbour that is told, on both sides -/
def tr_H (nb g : Nat) (k : Nat → Nat) (pp : Nat → Nat → Nat) (t_pips t_many : Nat → Int32) (t_berths t_goal : Int32) (h : Nat → Int32) : Prop :=
  (3 ≤ nb ∧ nb ≤ 18 ∧ 1 ≤ g ∧ g ≤ 9) ∧ (∀ d, d < 3 → (1 ≤ k d ∧ k d ≤ 6) ∧ t_many d = nI (k d) ∧ h (4 + 7 * d) = nI (k d) ∧ ∀ i, i < k d → (1 ≤ pp d i ∧ pp d i ≤ 9) ∧ t_pips (d * 6 + i) = nI (pp d i) ∧ h (4 + 7 * d + 1 + i) = nI (pp d i)) ∧ t_berths = nI nb ∧ t_goal = nI g ∧ h 0 = nI nb ∧ h 1 = nI g
section TRH
variable {nb g : Nat} {k : Nat → Nat} {pp : Nat → Nat → Nat} {t_pips t_many : Nat → Int32} {t_berths t_goal : Int32} {h : Nat → Int32}
theorem tr_pip (H : tr_H nb g k pp t_pips t_many t_berths t_goal h) {d i : Nat} (hd : d < 3) (hi : i < k d) : fX3_pip t_pips (nI d) (nI i) = some (nI (pp d i)) := by
  obtain ⟨⟨h1, h2⟩, -, -, h3⟩ := H.2.1 d hd
  unfold fX3_pip
  rw [show (6 : Int32) = nI 6 from rfl, pk_mul, nI_add, ck_nI (by omega) (by decide), cl_nI (by omega), (h3 i hi).2.1]
theorem tr_faces (H : tr_H nb g k pp t_pips t_many t_berths t_goal h) {d : Nat} (hd : d < 3) : fX5_faces h (nI d) = some (nI (k d)) := by
  obtain ⟨-, -, h1, -⟩ := H.2.1 d hd
  unfold fX5_faces
  rw [show (7 : Int32) = nI 7 from rfl, show (4 : Int32) = nI 4 from rfl, pk_mul, nI_add, ck_nI (by omega) (by decide), cl_nI (by omega), h1]
theorem tr_face (H : tr_H nb g k pp t_pips t_many t_berths t_goal h) {d i : Nat} (hd : d < 3) (hi : i < k d) : fX5_face h (nI d) (nI i) = some (nI (pp d i)) := by
  obtain ⟨⟨h1, h2⟩, -, -, h3⟩ := H.2.1 d hd
  unfold fX5_face
  rw [show (7 : Int32) = nI 7 from rfl, show (4 : Int32) = nI 4 from rfl, show (1 : Int32) = nI 1 from rfl, pk_mul, nI_add, nI_add, nI_add, ck_nI (by omega) (by decide), cl_nI (by omega), (h3 i hi).2.2]
end TRH
/-! which berths are open -/
def tr_ix (nb w i : Nat) : Nat := if w = 0 then i else nb + 1 - i
def tr_os (nb a b c w i : Nat) : Bool := decide (1 ≤ i ∧ i ≤ nb) && decide (tr_ix nb w i = a ∨ tr_ix nb w i = b ∨ tr_ix nb w i = c ∨ tr_ix nb w i = a + b ∨ tr_ix nb w i = a + c ∨ tr_ix nb w i = b + c ∨ tr_ix nb w i = a + b + c)
theorem tr_bb {nb s w : Nat} (hs : 1 ≤ s) (hs2 : s ≤ 27) (hnb : nb ≤ 18) (hw : w < 2) : ∃ x, fX3_berthBit (nI nb) (nI s) (nI w) = some x ∧ ∀ i, i < 32 → bt x i = (decide (1 ≤ i ∧ i ≤ nb) && decide (tr_ix nb w i = s)) := by
  unfold fX3_berthBit
  rw [show (1 : Int32) = nI 1 from rfl, if_neg (nI_nlt hs (by omega))]
  by_cases h : s ≤ nb
  · rw [if_pos (nI_le h (by omega))]
    have hv : (if ¬ nI w = 0 then some (nI nb + nI 1 - nI s) else some (nI s)) = some (nI (tr_ix nb w s)) := by
      unfold tr_ix
      by_cases hw0 : w = 0
      · subst hw0; rfl
      · rw [if_pos (nI_ne0 (by omega) (by omega)), if_neg hw0, nI_add, pk_sub (by omega)]
    rw [hv, b1_some]
    unfold fX4_bit
    rw [b1_some]
    refine ⟨_, rfl, fun i hi => ?_⟩
    have hlt : tr_ix nb w s < 32 := by unfold tr_ix; split <;> omega
    rw [bt_bit hlt hi, ← Bool.decide_and]
    apply decide_eq_decide.mpr
    unfold tr_ix
    by_cases hw0 : w = 0
    · simp only [hw0, if_true]; omega
    · simp only [hw0, if_false]; omega
  · rw [if_neg (fun q => h ((nI_leI (by omega) (by omega)).mp q))]
    refine ⟨0, rfl, fun i hi => ?_⟩
    rw [b_0, ← Bool.decide_and]
    symm
    apply decide_eq_false
    unfold tr_ix
    split <;> omega
theorem tr_opens {nb a b c w : Nat} (ha : 1 ≤ a ∧ a ≤ 9) (hb : 1 ≤ b ∧ b ≤ 9) (hc : 1 ≤ c ∧ c ≤ 9) (hnb : nb ≤ 18) (hw : w < 2) : ∃ x, fX3_opens (nI nb) (nI a) (nI b) (nI c) (nI w) = some x ∧ ∀ i, i < 32 → bt x i = tr_os nb a b c w i := by
  obtain ⟨x1, e1, g1⟩ := tr_bb (s := a) (by omega) (by omega) hnb hw
  obtain ⟨x2, e2, g2⟩ := tr_bb (s := b) (by omega) (by omega) hnb hw
  obtain ⟨x3, e3, g3⟩ := tr_bb (s := c) (by omega) (by omega) hnb hw
  obtain ⟨x4, e4, g4⟩ := tr_bb (s := a + b) (by omega) (by omega) hnb hw
  obtain ⟨x5, e5, g5⟩ := tr_bb (s := a + c) (by omega) (by omega) hnb hw
  obtain ⟨x6, e6, g6⟩ := tr_bb (s := b + c) (by omega) (by omega) hnb hw
  obtain ⟨x7, e7, g7⟩ := tr_bb (s := a + b + c) (by omega) (by omega) hnb hw
  unfold fX3_opens
  simp only [nI_add, e1, e2, e3, e4, e5, e6, e7, b1_some]
  refine ⟨_, rfl, fun i hi => ?_⟩
  rw [b_or, b_or, b_or, b_or, b_or, b_or, g1 i hi, g2 i hi, g3 i hi, g4 i hi, g5 i hi, g6 i hi, g7 i hi]
  unfold tr_os
  cases decide (1 ≤ i ∧ i ≤ nb) with
  | false => rfl
  | true => simp only [Bool.true_and, Bool.decide_or, Bool.or_assoc]
theorem tr_openedL {nb w : Nat} {h : Nat → Int32} {S : Int32} (hnb : nb ≤ 18) (hw : w < 2) (h0 : h 0 = nI nb) : ∀ (m j : Nat) (acc : Int32), 1 ≤ j → j ≤ nb + 1 → nb + 2 ≤ j + m → ∃ x, fX5_opened_L45 h (nI w) S m acc (nI j) = some (x, nI (nb + 1)) ∧ ∀ i, i < 32 → bt x i = (bt acc i || (decide (j ≤ i ∧ i ≤ nb) && bt S (tr_ix nb w i)))
  | 0, j, acc, h1, h2, h3 => by omega
  | m + 1, j, acc, h1, h2, h3 => by
    rw [fX5_opened_L45, h0]
    by_cases hj : nb < j
    · rw [if_pos (nI_lt hj (by omega))]
      have : j = nb + 1 := by omega
      subst this
      refine ⟨acc, rfl, fun i hi => ?_⟩
      rw [decide_eq_false (by omega), Bool.false_and, Bool.or_false]
    · rw [if_neg (nI_nlt (by omega) (by omega))]
      have hv : (if ¬ nI w = 0 then some (nI nb + 1 - nI j) else some (nI j)) = some (nI (tr_ix nb w j)) := by
        unfold tr_ix
        by_cases hw0 : w = 0
        · subst hw0; rfl
        · rw [if_pos (nI_ne0 (by omega) (by omega)), if_neg hw0, nI_1, pk_sub (by omega)]
      have hlt : tr_ix nb w j < 32 := by unfold tr_ix; split <;> omega
      rw [hv, b1_some, bt_sh1 S hlt]
      have hb : (if ¬ (if bt S (tr_ix nb w j) = true then (1 : Int32) else 0) = 1 then some (0 : Int32) else some (1 <<< (nI j &&& 31))) = some (if bt S (tr_ix nb w j) = true then 1 <<< (nI j &&& 31) else 0) := by
        cases bt S (tr_ix nb w j) <;> rfl
      rw [hb, b1_some]
      simp only [nm_is]
      rw [nI_1]
      obtain ⟨x, e, gx⟩ := tr_openedL hnb hw h0 m (j + 1) (acc ||| (if bt S (tr_ix nb w j) = true then 1 <<< (nI j &&& 31) else 0)) (by omega) (by omega) (by omega)
      refine ⟨x, e, fun i hi => ?_⟩
      rw [gx i hi, b_or]
      by_cases hij : i = j
      · subst hij
        rw [decide_eq_false (show ¬ (i + 1 ≤ i ∧ i ≤ nb) by omega), decide_eq_true (show i ≤ i ∧ i ≤ nb by omega)]
        cases e2 : bt S (tr_ix nb w i)
        · simp [b_0]
        · simp [bt_bit (show i < 32 by omega) hi]
      · have e1 : decide (j + 1 ≤ i ∧ i ≤ nb) = decide (j ≤ i ∧ i ≤ nb) := decide_eq_decide.mpr (by omega)
        rw [e1]
        cases e2 : bt S (tr_ix nb w j)
        · simp [b_0]
        · simp [bt_bit (show j < 32 by omega) hi, hij]
theorem tr_opened {nb a b c w : Nat} {h : Nat → Int32} (ha : 1 ≤ a ∧ a ≤ 9) (hb : 1 ≤ b ∧ b ≤ 9) (hc : 1 ≤ c ∧ c ≤ 9) (hnb : nb ≤ 18) (hw : w < 2) (h0 : h 0 = nI nb) : ∃ x, fX5_opened h (nI a) (nI b) (nI c) (nI w) = some x ∧ ∀ i, i < 32 → bt x i = tr_os nb a b c w i := by
  unfold fX5_opened
  simp only [nm_is, nI_add]
  obtain ⟨x, e, gx⟩ := tr_openedL (S := ((((((1 <<< (nI a &&& 31)) ||| (1 <<< (nI b &&& 31))) ||| (1 <<< (nI c &&& 31))) ||| (1 <<< (nI (a + b) &&& 31))) ||| (1 <<< (nI (a + c) &&& 31))) ||| (1 <<< (nI (b + c) &&& 31))) ||| (1 <<< (nI (a + b + c) &&& 31))) hnb hw h0 400 1 0 (by omega) (by omega) (by omega)
  rw [show (1 : Int32) = nI 1 from rfl] at *
  rw [e, b2_some]
  refine ⟨x, rfl, fun i hi => ?_⟩
  rw [gx i hi, b_0, Bool.false_or]
  unfold tr_os
  by_cases hi2 : 1 ≤ i ∧ i ≤ nb
  · rw [decide_eq_true hi2, Bool.true_and, Bool.true_and]
    have hlt : tr_ix nb w i < 32 := by unfold tr_ix; split <;> omega
    rw [← show (1 : Int32) = nI 1 from rfl]
    rw [b_or, b_or, b_or, b_or, b_or, b_or, bt_bit (by omega) hlt, bt_bit (by omega) hlt, bt_bit (by omega) hlt, bt_bit (by omega) hlt, bt_bit (by omega) hlt, bt_bit (by omega) hlt, bt_bit (by omega) hlt]
    simp only [Bool.decide_or, Bool.or_assoc]
  · rw [decide_eq_false hi2, Bool.false_and, Bool.false_and]
