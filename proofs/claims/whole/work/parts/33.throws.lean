/-! all throws, in the order told -/
def tr_O (nb a b c w : Nat) : Int32 := (fX3_opens (nI nb) (nI a) (nI b) (nI c) (nI w)).getD 0
theorem tr_O_x {nb a b c w : Nat} (ha : 1 ≤ a ∧ a ≤ 9) (hb : 1 ≤ b ∧ b ≤ 9) (hc : 1 ≤ c ∧ c ≤ 9) (hnb : nb ≤ 18) (hw : w < 2) : fX3_opens (nI nb) (nI a) (nI b) (nI c) (nI w) = some (tr_O nb a b c w) := by
  obtain ⟨x, e, -⟩ := tr_opens ha hb hc hnb hw
  unfold tr_O
  rw [e]; rfl
theorem tr_O_bt {nb a b c w i : Nat} (ha : 1 ≤ a ∧ a ≤ 9) (hb : 1 ≤ b ∧ b ≤ 9) (hc : 1 ≤ c ∧ c ≤ 9) (hnb : nb ≤ 18) (hw : w < 2) (hi : i < 32) : bt (tr_O nb a b c w) i = tr_os nb a b c w i := by
  obtain ⟨x, e, g⟩ := tr_opens ha hb hc hnb hw
  unfold tr_O
  rw [e]
  exact g i hi
theorem tr_O_m {nb a b c w : Nat} {h : Nat → Int32} (ha : 1 ≤ a ∧ a ≤ 9) (hb : 1 ≤ b ∧ b ≤ 9) (hc : 1 ≤ c ∧ c ≤ 9) (hnb : nb ≤ 18) (hw : w < 2) (h0 : h 0 = nI nb) : fX5_opened h (nI a) (nI b) (nI c) (nI w) = some (tr_O nb a b c w) := by
  obtain ⟨x, e, g⟩ := tr_opened (h := h) ha hb hc hnb hw h0
  rw [e]
  exact congrArg some (b_ext (fun i hi => by rw [g i hi, tr_O_bt ha hb hc hnb hw hi]))
theorem tr_O_in {nb a b c w i : Nat} (ha : 1 ≤ a ∧ a ≤ 9) (hb : 1 ≤ b ∧ b ≤ 9) (hc : 1 ≤ c ∧ c ≤ 9) (hnb : nb ≤ 18) (hw : w < 2) (hi : i < 32) (h : bt (tr_O nb a b c w) i = true) : 1 ≤ i ∧ i ≤ nb := by
  rw [tr_O_bt ha hb hc hnb hw hi] at h
  unfold tr_os at h
  simp only [Bool.and_eq_true, decide_eq_true_eq] at h
  exact h.1
def tr_al (a b c : Nat) : Nat := (if a = b then 1 else 0) + (if b = c then 1 else 0) + (if a = c then 1 else 0)
def tr_N (k : Nat → Nat) : Nat := k 0 * k 1 * k 2
def tr_a (k : Nat → Nat) (pp : Nat → Nat → Nat) (t : Nat) : Nat := pp 0 (t / k 2 / k 1)
def tr_b (k : Nat → Nat) (pp : Nat → Nat → Nat) (t : Nat) : Nat := pp 1 (t / k 2 % k 1)
def tr_c (k : Nat → Nat) (pp : Nat → Nat → Nat) (t : Nat) : Nat := pp 2 (t % k 2)
def tr_o (nb : Nat) (k : Nat → Nat) (pp : Nat → Nat → Nat) (w t : Nat) : Int32 := tr_O nb (tr_a k pp t) (tr_b k pp t) (tr_c k pp t) w
def tr_w2 (k : Nat → Nat) (pp : Nat → Nat → Nat) (w t : Nat) : Nat := if tr_al (tr_a k pp t) (tr_b k pp t) (tr_c k pp t) = 1 then 1 - w else w
def tr_th (nb : Nat) (k : Nat → Nat) (pp : Nat → Nat → Nat) (w t : Nat) : Int32 := tr_o nb k pp (tr_w2 k pp w t) t
def tr_sh (k : Nat → Nat) (pp : Nat → Nat → Nat) (t : Nat) : Nat := 100 * tr_a k pp t + 10 * tr_b k pp t + tr_c k pp t
def tr_ev (nb : Nat) (k : Nat → Nat) (pp : Nat → Nat → Nat) : Nat → Int32
  | 0 => 0
  | t + 1 => tr_ev nb k pp t ||| (tr_o nb k pp 0 t ||| tr_o nb k pp 1 t)
def tr_row (nb : Nat) (k : Nat → Nat) (pp : Nat → Nat → Nat) (n : Nat) (s ca wi tu : Nat → Int32) : Prop := ∀ t, t < n → s t = nI (tr_sh k pp t) ∧ ca t = tr_o nb k pp 0 t ∧ wi t = tr_o nb k pp 1 t ∧ tu t = (if tr_al (tr_a k pp t) (tr_b k pp t) (tr_c k pp t) = 1 then 1 else 0)
def tr_A (nb : Nat) (k : Nat → Nat) (pp : Nat → Nat → Nat) (s ca wi tu : Nat → Int32) (many ever : Int32) : Prop := many = nI (tr_N k) ∧ tr_row nb k pp (tr_N k) s ca wi tu ∧ ever = tr_ev nb k pp (tr_N k)
theorem nI_inj {a b : Nat} (ha : a < 2 ^ 31) (hb : b < 2 ^ 31) : nI a = nI b ↔ a = b := nI_eq ha hb
theorem tr_eq01 {a b : Nat} (ha : a < 2 ^ 31) (hb : b < 2 ^ 31) : (if ¬ nI a = nI b then some (0 : Int32) else some (1 : Int32)) = some (nI (if a = b then 1 else 0)) := by
  by_cases h : a = b
  · subst h; rw [if_neg (fun q => q rfl), if_pos rfl]; rfl
  · rw [if_pos (fun q => h ((nI_eq ha hb).mp q)), if_neg h]; rfl
theorem tr_alike {a b c : Nat} (ha : a ≤ 9) (hb : b ≤ 9) (hc : c ≤ 9) : fX0_alikePairs (nI a) (nI b) (nI c) = some (nI (tr_al a b c)) := by
  unfold fX0_alikePairs
  rw [tr_eq01 (by omega) (by omega), b1_some, tr_eq01 (by omega) (by omega), b1_some, tr_eq01 (by omega) (by omega), b1_some, nI_add, nI_add]
  rfl
theorem tr_al_le (a b c : Nat) : tr_al a b c ≤ 3 := by unfold tr_al; split <;> split <;> split <;> omega
theorem tr_isDouble {a b c : Nat} (ha : a ≤ 9) (hb : b ≤ 9) (hc : c ≤ 9) : fX5_isDouble (nI a) (nI b) (nI c) = some (if tr_al a b c = 1 then 1 else 0) := by
  unfold fX5_isDouble
  rw [tr_eq01 (by omega) (by omega), b1_some, tr_eq01 (by omega) (by omega), b1_some, tr_eq01 (by omega) (by omega), b1_some, nI_add, nI_add]
  have : (if a = b then 1 else 0) + (if b = c then 1 else 0) + (if a = c then 1 else 0) = tr_al a b c := rfl
  rw [this, show (1 : Int32) = nI 1 from rfl]
  have hle := tr_al_le a b c
  by_cases h : tr_al a b c = 1
  · rw [h, if_neg (fun q => q rfl), if_pos rfl]
  · rw [if_pos (fun q => h ((nI_eq (by omega) (by omega)).mp q)), if_neg h]
section TRT
variable {nb g : Nat} {k : Nat → Nat} {pp : Nat → Nat → Nat} {t_pips t_many : Nat → Int32} {t_berths t_goal : Int32} {h : Nat → Int32}
theorem tr_k (H : tr_H nb g k pp t_pips t_many t_berths t_goal h) {d : Nat} (hd : d < 3) : 1 ≤ k d ∧ k d ≤ 6 := (H.2.1 d hd).1
theorem tr_N_le (H : tr_H nb g k pp t_pips t_many t_berths t_goal h) : 1 ≤ tr_N k ∧ tr_N k ≤ 216 := by
  have h0 := tr_k H (d := 0) (by omega)
  have h1 := tr_k H (d := 1) (by omega)
  have h2 := tr_k H (d := 2) (by omega)
  unfold tr_N
  refine ⟨Nat.mul_pos (Nat.mul_pos h0.1 h1.1) h2.1, ?_⟩
  exact Nat.mul_le_mul (Nat.mul_le_mul h0.2 h1.2) h2.2
theorem tr_ijk (H : tr_H nb g k pp t_pips t_many t_berths t_goal h) {t : Nat} (ht : t < tr_N k) : t / k 2 / k 1 < k 0 ∧ t / k 2 % k 1 < k 1 ∧ t % k 2 < k 2 := by
  have h1 := (tr_k H (d := 1) (by omega)).1
  have h2 := (tr_k H (d := 2) (by omega)).1
  refine ⟨?_, Nat.mod_lt _ h1, Nat.mod_lt _ h2⟩
  rw [Nat.div_lt_iff_lt_mul h1, Nat.div_lt_iff_lt_mul h2]
  exact ht
theorem tr_abc (H : tr_H nb g k pp t_pips t_many t_berths t_goal h) {t : Nat} (ht : t < tr_N k) : (1 ≤ tr_a k pp t ∧ tr_a k pp t ≤ 9) ∧ (1 ≤ tr_b k pp t ∧ tr_b k pp t ≤ 9) ∧ (1 ≤ tr_c k pp t ∧ tr_c k pp t ≤ 9) := by
  obtain ⟨h0, h1, h2⟩ := tr_ijk H ht
  exact ⟨((H.2.1 0 (by omega)).2.2.2 _ h0).1, ((H.2.1 1 (by omega)).2.2.2 _ h1).1, ((H.2.1 2 (by omega)).2.2.2 _ h2).1⟩
theorem tr_w2_lt {w t : Nat} (hw : w < 2) : tr_w2 k pp w t < 2 := by unfold tr_w2; split <;> omega
theorem tr_th_in (H : tr_H nb g k pp t_pips t_many t_berths t_goal h) {w t i : Nat} (hw : w < 2) (ht : t < tr_N k) (hi : i < 32) (hb : bt (tr_th nb k pp w t) i = true) : 1 ≤ i ∧ i ≤ nb := by
  obtain ⟨ha, hb', hc⟩ := tr_abc H ht
  exact tr_O_in ha hb' hc H.1.2.1 (tr_w2_lt hw) hi hb
theorem tr_o_in (H : tr_H nb g k pp t_pips t_many t_berths t_goal h) {w t i : Nat} (hw : w < 2) (ht : t < tr_N k) (hi : i < 32) (hb : bt (tr_o nb k pp w t) i = true) : 1 ≤ i ∧ i ≤ nb := by
  obtain ⟨ha, hb', hc⟩ := tr_abc H ht
  exact tr_O_in ha hb' hc H.1.2.1 hw hi hb
/-! the class makes them -/
theorem tr_add (H : tr_H nb g k pp t_pips t_many t_berths t_goal h) {t : Nat} (ht : t < tr_N k) {s ca wi tu : Nat → Int32} (hr : tr_row nb k pp t s ca wi tu) : ∃ s' ca' wi' tu', fX0_addThrow s ca wi tu (nI t) (tr_ev nb k pp t) t_berths (nI (tr_a k pp t)) (nI (tr_b k pp t)) (nI (tr_c k pp t)) = some (s', ca', wi', tu', nI (t + 1), tr_ev nb k pp (t + 1)) ∧ tr_row nb k pp (t + 1) s' ca' wi' tu' := by
  have hN := (tr_N_le H).2
  obtain ⟨ha, hb, hc⟩ := tr_abc H ht
  have h216 : t < 216 := by omega
  unfold fX0_addThrow
  rw [show (216 : Int32) = nI 216 from rfl, if_pos (nI_lt h216 (by decide))]
  unfold fX0_shownAs
  rw [b1_some]
  simp only [ck_nI h216 (by decide : 216 < 2 ^ 31), nm_is, cl_nI (show t < 2 ^ 31 by omega)]
  rw [H.2.2.1, show (0 : Int32) = nI 0 from rfl, tr_O_x ha hb hc H.1.2.1 (by decide), b1_some, show fX3_opens (nI nb) (nI (tr_a k pp t)) (nI (tr_b k pp t)) (nI (tr_c k pp t)) 1 = some (tr_o nb k pp 1 t) from tr_O_x (w := 1) ha hb hc H.1.2.1 (by decide), b1_some, tr_alike ha.2 hb.2 hc.2, b1_some]
  have hle := tr_al_le (tr_a k pp t) (tr_b k pp t) (tr_c k pp t)
  have hz : (if ¬ nI (tr_al (tr_a k pp t) (tr_b k pp t) (tr_c k pp t)) = 1 then some (nI 0) else some (1 : Int32)) = some (if tr_al (tr_a k pp t) (tr_b k pp t) (tr_c k pp t) = 1 then 1 else 0) := by
    by_cases e : tr_al (tr_a k pp t) (tr_b k pp t) (tr_c k pp t) = 1
    · rw [if_neg (fun q => q (by rw [e]; rfl)), if_pos e]
    · rw [if_pos (show ¬ nI (tr_al (tr_a k pp t) (tr_b k pp t) (tr_c k pp t)) = (1 : Int32) from fun q => e ((nI_eq (by omega) (by decide)).mp q)), if_neg e]; rfl
  rw [hz, b1_some]
  rw [nI_1, show (100 : Int32) = nI 100 from rfl, show (10 : Int32) = nI 10 from rfl, pk_mul, pk_mul, nI_add, nI_add]
  rw [pk_us, pk_us]
  have hv : vp_nar .boolean (if tr_al (tr_a k pp t) (tr_b k pp t) (tr_c k pp t) = 1 then 1 else 0) = if tr_al (tr_a k pp t) (tr_b k pp t) (tr_c k pp t) = 1 then 1 else 0 := by split <;> rfl
  rw [hv]
  refine ⟨_, _, _, _, rfl, fun u hu => ?_⟩
  by_cases e : u = t
  · subst e
    rw [pk_us, pk_us, pk_us, pk_us]
    exact ⟨rfl, rfl, rfl, rfl⟩
  · rw [pk_un e, pk_un e, pk_un e, pk_un e]
    exact hr u (by omega)
theorem tr_mk37 (H : tr_H nb g k pp t_pips t_many t_berths t_goal h) {i j : Nat} (hi : i < k 0) (hj : j < k 1) : ∀ (m z : Nat) (s ca wi tu : Nat → Int32), z ≤ k 2 → k 2 + 1 ≤ z + m → tr_row nb k pp ((i * k 1 + j) * k 2 + z) s ca wi tu → ∃ s' ca' wi' tu', fX0_makeOf_L37 t_pips t_many t_berths (nI i) (nI j) m s ca wi tu (nI ((i * k 1 + j) * k 2 + z)) (tr_ev nb k pp ((i * k 1 + j) * k 2 + z)) (nI z) = some (s', ca', wi', tu', nI ((i * k 1 + (j + 1)) * k 2), tr_ev nb k pp ((i * k 1 + (j + 1)) * k 2), nI (k 2)) ∧ tr_row nb k pp ((i * k 1 + (j + 1)) * k 2) s' ca' wi' tu'
  | 0, z, s, ca, wi, tu, h1, h2, hr => by omega
  | m + 1, z, s, ca, wi, tu, h1, h2, hr => by
    have hk2 := tr_k H (d := 2) (by omega)
    have hk1 := tr_k H (d := 1) (by omega)
    rw [fX0_makeOf_L37, (H.2.1 2 (by omega)).2.1]
    by_cases hz : k 2 ≤ z
    · have e : z = k 2 := by omega
      subst e
      rw [if_pos (nI_le (Nat.le_refl _) (by omega))]
      have e2 : (i * k 1 + j) * k 2 + k 2 = (i * k 1 + (j + 1)) * k 2 := by rw [← Nat.add_assoc, Nat.add_mul _ 1, Nat.one_mul]
      rw [e2] at hr ⊢
      exact ⟨s, ca, wi, tu, rfl, hr⟩
    · have hlt : z < k 2 := by omega
      have ht : (i * k 1 + j) * k 2 + z < tr_N k := by
        unfold tr_N
        have a1 : i * k 1 + j + 1 ≤ k 0 * k 1 := by
          have := Nat.mul_le_mul_right (k 1) hi
          rw [Nat.succ_mul] at this
          omega
        have a2 := Nat.mul_le_mul_right (k 2) a1
        rw [Nat.add_mul _ 1, Nat.one_mul] at a2
        omega
      have d1 : ((i * k 1 + j) * k 2 + z) / k 2 = i * k 1 + j := by rw [Nat.add_comm, Nat.add_mul_div_right _ _ hk2.1, Nat.div_eq_of_lt hlt, Nat.zero_add]
      have d2 : ((i * k 1 + j) * k 2 + z) % k 2 = z := by rw [Nat.add_comm, Nat.add_mul_mod_self_right, Nat.mod_eq_of_lt hlt]
      have d3 : (i * k 1 + j) / k 1 = i := by rw [Nat.add_comm, Nat.add_mul_div_right _ _ hk1.1, Nat.div_eq_of_lt hj, Nat.zero_add]
      have d4 : (i * k 1 + j) % k 1 = j := by rw [Nat.add_comm, Nat.add_mul_mod_self_right, Nat.mod_eq_of_lt hj]
      rw [if_neg (nI_ge hlt (by omega)), show fX3_pip t_pips 0 (nI i) = some (nI (pp 0 i)) from tr_pip H (d := 0) (by omega) hi, b1_some, show fX3_pip t_pips 1 (nI j) = some (nI (pp 1 j)) from tr_pip H (d := 1) (by omega) hj, b1_some, show fX3_pip t_pips 2 (nI z) = some (nI (pp 2 z)) from tr_pip H (d := 2) (by omega) hlt, b1_some]
      obtain ⟨s1, ca1, wi1, tu1, e1, hr1⟩ := tr_add H ht hr
      have f1 : tr_a k pp ((i * k 1 + j) * k 2 + z) = pp 0 i := by unfold tr_a; rw [d1, d3]
      have f2 : tr_b k pp ((i * k 1 + j) * k 2 + z) = pp 1 j := by unfold tr_b; rw [d1, d4]
      have f3 : tr_c k pp ((i * k 1 + j) * k 2 + z) = pp 2 z := by unfold tr_c; rw [d2]
      rw [f1, f2, f3] at e1
      rw [e1]
      show ∃ s' ca' wi' tu', fX0_makeOf_L37 t_pips t_many t_berths (nI i) (nI j) m s1 ca1 wi1 tu1 (nI ((i * k 1 + j) * k 2 + z + 1)) (tr_ev nb k pp ((i * k 1 + j) * k 2 + z + 1)) (nI z + 1) = _ ∧ _
      rw [nI_1, Nat.add_assoc _ z 1]
      exact tr_mk37 H hi hj m (z + 1) s1 ca1 wi1 tu1 (by omega) (by omega) hr1
theorem tr_mk24 (H : tr_H nb g k pp t_pips t_many t_berths t_goal h) {i : Nat} (hi : i < k 0) : ∀ (m j : Nat) (s ca wi tu : Nat → Int32), j ≤ k 1 → k 1 + 1 ≤ j + m → tr_row nb k pp ((i * k 1 + j) * k 2) s ca wi tu → ∃ s' ca' wi' tu', fX0_makeOf_L24 t_pips t_many t_berths (nI i) m s ca wi tu (nI ((i * k 1 + j) * k 2)) (tr_ev nb k pp ((i * k 1 + j) * k 2)) (nI j) = some (s', ca', wi', tu', nI ((i + 1) * k 1 * k 2), tr_ev nb k pp ((i + 1) * k 1 * k 2), nI (k 1)) ∧ tr_row nb k pp ((i + 1) * k 1 * k 2) s' ca' wi' tu'
  | 0, j, s, ca, wi, tu, h1, h2, hr => by omega
  | m + 1, j, s, ca, wi, tu, h1, h2, hr => by
    have hk1 := tr_k H (d := 1) (by omega)
    have hk2 := tr_k H (d := 2) (by omega)
    rw [fX0_makeOf_L24, (H.2.1 1 (by omega)).2.1]
    by_cases hz : k 1 ≤ j
    · have e : j = k 1 := by omega
      subst e
      rw [if_pos (nI_le (Nat.le_refl _) (by omega))]
      have e2 : (i * k 1 + k 1) * k 2 = (i + 1) * k 1 * k 2 := by rw [Nat.add_mul i 1, Nat.one_mul]
      rw [e2] at hr ⊢
      exact ⟨s, ca, wi, tu, rfl, hr⟩
    · have hlt : j < k 1 := by omega
      rw [if_neg (nI_ge hlt (by omega))]
      obtain ⟨s1, ca1, wi1, tu1, e1, hr1⟩ := tr_mk37 H hi hlt 400 0 s ca wi tu (by omega) (by omega) (by rw [Nat.add_zero]; exact hr)
      rw [Nat.add_zero] at e1
      rw [show (0 : Int32) = nI 0 from rfl, e1]
      show ∃ s' ca' wi' tu', fX0_makeOf_L24 t_pips t_many t_berths (nI i) m s1 ca1 wi1 tu1 _ _ (nI j + 1) = _ ∧ _
      rw [nI_1]
      exact tr_mk24 H hi m (j + 1) s1 ca1 wi1 tu1 (by omega) (by omega) hr1
theorem tr_mk12 (H : tr_H nb g k pp t_pips t_many t_berths t_goal h) : ∀ (m i : Nat) (s ca wi tu : Nat → Int32), i ≤ k 0 → k 0 + 1 ≤ i + m → tr_row nb k pp (i * k 1 * k 2) s ca wi tu → ∃ s' ca' wi' tu', fX0_makeOf_L12 t_pips t_many t_berths m s ca wi tu (nI (i * k 1 * k 2)) (tr_ev nb k pp (i * k 1 * k 2)) (nI i) = some (s', ca', wi', tu', nI (tr_N k), tr_ev nb k pp (tr_N k), nI (k 0)) ∧ tr_row nb k pp (tr_N k) s' ca' wi' tu'
  | 0, i, s, ca, wi, tu, h1, h2, hr => by omega
  | m + 1, i, s, ca, wi, tu, h1, h2, hr => by
    have hk0 := tr_k H (d := 0) (by omega)
    have hk1 := tr_k H (d := 1) (by omega)
    rw [fX0_makeOf_L12, (H.2.1 0 (by omega)).2.1]
    by_cases hz : k 0 ≤ i
    · have e : i = k 0 := by omega
      subst e
      rw [if_pos (nI_le (Nat.le_refl _) (by omega))]
      exact ⟨s, ca, wi, tu, rfl, hr⟩
    · have hlt : i < k 0 := by omega
      rw [if_neg (nI_ge hlt (by omega))]
      obtain ⟨s1, ca1, wi1, tu1, e1, hr1⟩ := tr_mk24 H hlt 400 0 s ca wi tu (by omega) (by omega) (by rw [Nat.add_zero]; exact hr)
      rw [Nat.add_zero] at e1
      rw [show (0 : Int32) = nI 0 from rfl, e1]
      show ∃ s' ca' wi' tu', fX0_makeOf_L12 t_pips t_many t_berths m s1 ca1 wi1 tu1 _ _ (nI i + 1) = _ ∧ _
      rw [nI_1]
      exact tr_mk12 H m (i + 1) s1 ca1 wi1 tu1 (by omega) (by omega) hr1
/-- the class's table of all throws -/
theorem tr_make (H : tr_H nb g k pp t_pips t_many t_berths t_goal h) (s ca wi tu : Nat → Int32) : ∃ s' ca' wi' tu' many ever, fX0_makeOf s ca wi tu t_pips t_many t_berths = some (s', ca', wi', tu', many, ever) ∧ tr_A nb k pp s' ca' wi' tu' many ever := by
  obtain ⟨s1, ca1, wi1, tu1, e1, hr1⟩ := tr_mk12 H 400 0 s ca wi tu (by omega) (by have := (tr_k H (d := 0) (by omega)).2; omega) (fun t ht => by simp at ht)
  refine ⟨s1, ca1, wi1, tu1, _, _, ?_, rfl, hr1, rfl⟩
  unfold fX0_makeOf
  rw [Nat.zero_mul, Nat.zero_mul] at e1
  exact (congrArg (fun o => tg_b7 o _) e1).trans rfl
end TRT
