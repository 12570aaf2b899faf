/-! dice; what is now; players; chalk; kinds -/
section TRD
variable {nb g : Nat} {k : Nat → Nat} {pp : Nat → Nat → Nat} {t_pips t_many : Nat → Int32} {t_berths t_goal : Int32} {h at_ now : Nat → Int32} {s ca wi tu : Nat → Int32} {many ever : Int32}
theorem q_w19 (H : tr_H nb g k pp t_pips t_many t_berths t_goal h) {d e a : Nat} (hd : d < 3) (he : e < 3) (ha : a < k d) : ∀ (m i v : Nat), i ≤ k e → k e + 1 ≤ i + m → ∃ v', v' ≤ v + (k e - i) ∧ fX3_winsOf_L19 t_pips t_many (nI d) (nI e) (nI a) m (nI v) (nI i) = some (nI v', nI (k e)) ∧ fX5_wins_L18 h (nI d) (nI e) (nI a) m (nI v) (nI i) = some (nI v', nI (k e))
  | 0, i, v, h1, h2 => by omega
  | m + 1, i, v, h1, h2 => by
    have hk := tr_k H he
    rw [fX3_winsOf_L19, fX5_wins_L18, ck_nI he (by decide), cl_nI (by omega), (H.2.1 e he).2.1, tr_faces H he, b1_some]
    by_cases hz : k e ≤ i
    · have e1 : i = k e := by omega
      subst e1
      rw [if_pos (nI_le (Nat.le_refl _) (by omega)), if_pos (nI_le (Nat.le_refl _) (by omega))]
      exact ⟨v, by omega, rfl, rfl⟩
    · have hlt : i < k e := by omega
      rw [if_neg (nI_ge hlt (by omega)), if_neg (nI_ge hlt (by omega)), tr_pip H hd ha, b1_some, tr_pip H he hlt, b1_some, tr_face H hd ha, b1_some, tr_face H he hlt, b1_some]
      by_cases hc : nI (pp d a) ≤ nI (pp e i)
      · rw [if_pos hc, if_pos hc, b1_some, b1_some, nm_is, nm_is, nm_is, nI_1, show nI v + 0 = nI v from nI_add v 0]
        obtain ⟨v', l, x, y⟩ := q_w19 H hd he ha m (i + 1) v (by omega) (by omega)
        exact ⟨v', by omega, x, y⟩
      · rw [if_neg hc, if_neg hc, nm_is, b1_some, b1_some, nm_is, nm_is, nm_is, nI_1, nI_1]
        obtain ⟨v', l, x, y⟩ := q_w19 H hd he ha m (i + 1) (v + 1) (by omega) (by omega)
        exact ⟨v', by omega, x, y⟩
theorem q_w5 (H : tr_H nb g k pp t_pips t_many t_berths t_goal h) {d e : Nat} (hd : d < 3) (he : e < 3) : ∀ (m a v : Nat), a ≤ k d → k d + 1 ≤ a + m → ∃ v', v' ≤ v + (k d - a) * 6 ∧ fX3_winsOf_L5 t_pips t_many (nI d) (nI e) m (nI v) (nI a) = some (nI v', nI (k d)) ∧ fX5_wins_L5 h (nI d) (nI e) m (nI v) (nI a) = some (nI v', nI (k d))
  | 0, a, v, h1, h2 => by omega
  | m + 1, a, v, h1, h2 => by
    have hk := tr_k H hd
    have hke := tr_k H he
    rw [fX3_winsOf_L5, fX5_wins_L5, ck_nI hd (by decide), cl_nI (by omega), (H.2.1 d hd).2.1, tr_faces H hd, b1_some]
    by_cases hz : k d ≤ a
    · have e1 : a = k d := by omega
      subst e1
      rw [if_pos (nI_le (Nat.le_refl _) (by omega)), if_pos (nI_le (Nat.le_refl _) (by omega))]
      exact ⟨v, by omega, rfl, rfl⟩
    · have hlt : a < k d := by omega
      rw [if_neg (nI_ge hlt (by omega)), if_neg (nI_ge hlt (by omega))]
      obtain ⟨v1, l1, x1, y1⟩ := q_w19 H hd he hlt 400 0 v (by omega) (by omega)
      rw [show (0 : Int32) = nI 0 from rfl, x1, y1, b2_some, b2_some, nm_is, nm_is, nI_1]
      obtain ⟨v', l, x, y⟩ := q_w5 H hd he m (a + 1) v1 (by omega) (by omega)
      exact ⟨v', by omega, x, y⟩
theorem q_wins (H : tr_H nb g k pp t_pips t_many t_berths t_goal h) {d e : Nat} (hd : d < 3) (he : e < 3) : ∃ v, v ≤ 36 ∧ fX3_winsOf t_pips t_many (nI d) (nI e) = some (nI v) ∧ fX5_wins h (nI d) (nI e) = some (nI v) := by
  have hk := tr_k H hd
  obtain ⟨v, l, x, y⟩ := q_w5 H hd he 400 0 0 (by omega) (by omega)
  refine ⟨v, by omega, ?_, ?_⟩
  · unfold fX3_winsOf; exact (congrArg (fun o => tg_b2 o _) x).trans rfl
  · unfold fX5_wins; exact (congrArg (fun o => tg_b2 o _) y).trans rfl
theorem q_pairs (H : tr_H nb g k pp t_pips t_many t_berths t_goal h) {d e : Nat} (hd : d < 3) (he : e < 3) : fX3_pairsOf t_many (nI d) (nI e) = some (nI (k d * k e)) := by
  unfold fX3_pairsOf
  rw [ck_nI hd (by decide), ck_nI he (by decide), cl_nI (by omega), cl_nI (by omega), (H.2.1 d hd).2.1, (H.2.1 e he).2.1, pk_mul]
theorem q_most (H : tr_H nb g k pp t_pips t_many t_berths t_goal h) {d e : Nat} (hd : d < 3) (he : e < 3) : ∃ r, fX3_mostlyWins t_pips t_many (nI d) (nI e) = some r ∧ fX5_isMore h (nI d) (nI e) = some r := by
  obtain ⟨v, l, x, y⟩ := q_wins H hd he
  unfold fX3_mostlyWins fX5_isMore
  rw [x, y, b1_some, b1_some, q_pairs H hd he, b1_some, tr_faces H hd, b1_some, tr_faces H he, b1_some, pk_mul (k d)]
  split
  · exact ⟨_, rfl, rfl⟩
  · exact ⟨_, rfl, rfl⟩
end TRD
theorem s_beats : sm_beats tr_R := by
  intro x_text x_typed t_pips t_many t_berths t_goal r_fault r_length r_kind r_start r_next r_number r_dice r_bt r_gt d_pips d_many d_berths d_goal a_shown a_calm a_windy a_turns a_many a_ever c_at c_past c_known i_at i_past i_known j_at j_past j_known x_kept x_cb x_ct x_chalked x_traced m_text m_size m_at m_begin m_token m_told m_read m_harbour m_now m_undone m_undos m_one m_two m_three m_chalks m_cb m_co m_trace m_kept p1 p2 p3 hR
  have hR' := hR
  obtain ⟨nb, g, k, pp, H, A, U, I0, I1, Ck, X, tr⟩ := hR'
  have hnb := H.1.2.1
  have hg9 := H.1.2.2.2
  have hh0 := H.2.2.2.2.1
  have hh1 := H.2.2.2.2.2
  obtain rfl := H.2.2.1
  obtain rfl := H.2.2.2.1
  obtain rfl := A.1
  unfold fX4_beats fX5_beats
  rw [q_isDieC, b1_some, q_ifeq, q_isDieM, b1_some, q_ifeq, q_isDieC, b1_some, q_ifeq, q_isDieM, b1_some, q_ifeq, tr_isPart, b1_some, q_ifne, tr_in01, b1_some, q_ifne]
  by_cases h1 : 0 ≤ p1.toInt ∧ p1.toInt ≤ 2
  · by_cases h2 : 0 ≤ p2.toInt ∧ p2.toInt ≤ 2
    · by_cases h3 : p1 = p2
      · exact ⟨-1, by rw [if_pos h1, if_pos h2, if_pos h3], by rw [if_pos h1, if_pos h2, if_pos h3], hR⟩
      · by_cases hp : p3 = 0 ∨ p3 = 1
        · rw [if_pos h1, if_pos h2, if_neg h3, if_pos hp, if_pos h1, if_pos h2, if_neg h3, if_pos hp]
          obtain ⟨d, -, hd, -, rfl⟩ := nI_mid (x := p1) (a := 0) (b := 2) (by omega) (by omega)
          obtain ⟨e, -, he, -, rfl⟩ := nI_mid (x := p2) (a := 0) (b := 2) (by omega) (by omega)
          have hd3 : d < 3 := by omega
          have he3 : e < 3 := by omega
          have kd := tr_k H hd3
          have ke := tr_k H he3
          have hpos : 0 < k d * k e := Nat.mul_pos kd.1 ke.1
          have hle : k d * k e ≤ 6 * 6 := Nat.mul_le_mul kd.2 ke.2
          obtain ⟨v, l, x, y⟩ := q_wins H hd3 he3
          obtain ⟨r, r1, r2⟩ := tr_part (u := v) (v := k d * k e) (by omega) hpos (by omega) hp
          refine ⟨r, ?_, ?_, hR⟩
          · rw [x, b1_some, q_pairs H hd3 he3, b1_some, r1, b1_some]
          · rw [y, b1_some, tr_faces H hd3, b1_some, tr_faces H he3, b1_some, pk_mul, r2, b1_some]
        · exact ⟨-1, by rw [if_pos h1, if_pos h2, if_neg h3, if_neg hp], by rw [if_pos h1, if_pos h2, if_neg h3, if_neg hp], hR⟩
    · exact ⟨-1, by rw [if_pos h1, if_neg h2], by rw [if_pos h1, if_neg h2], hR⟩
  · exact ⟨-1, by rw [if_neg h1], by rw [if_neg h1], hR⟩
theorem s_ring : sm_ring tr_R := by
  intro x_text x_typed t_pips t_many t_berths t_goal r_fault r_length r_kind r_start r_next r_number r_dice r_bt r_gt d_pips d_many d_berths d_goal a_shown a_calm a_windy a_turns a_many a_ever c_at c_past c_known i_at i_past i_known j_at j_past j_known x_kept x_cb x_ct x_chalked x_traced m_text m_size m_at m_begin m_token m_told m_read m_harbour m_now m_undone m_undos m_one m_two m_three m_chalks m_cb m_co m_trace m_kept hR
  have hR' := hR
  obtain ⟨nb, g, k, pp, H, A, U, I0, I1, Ck, X, tr⟩ := hR'
  have hnb := H.1.2.1
  have hg9 := H.1.2.2.2
  have hh0 := H.2.2.2.2.1
  have hh1 := H.2.2.2.2.2
  obtain rfl := H.2.2.1
  obtain rfl := H.2.2.2.1
  obtain rfl := A.1
  obtain ⟨a1, x1, y1⟩ := q_most H (d := 0) (e := 1) (by decide) (by decide)
  obtain ⟨a2, x2, y2⟩ := q_most H (d := 1) (e := 2) (by decide) (by decide)
  obtain ⟨a3, x3, y3⟩ := q_most H (d := 2) (e := 0) (by decide) (by decide)
  obtain ⟨a4, x4, y4⟩ := q_most H (d := 1) (e := 0) (by decide) (by decide)
  obtain ⟨a5, x5, y5⟩ := q_most H (d := 2) (e := 1) (by decide) (by decide)
  obtain ⟨a6, x6, y6⟩ := q_most H (d := 0) (e := 2) (by decide) (by decide)
  have hX : fX4_ring t_pips t_many = fX5_ring m_harbour := by
    unfold fX4_ring fX5_ring
    simp only [show (0 : Int32) = nI 0 from rfl, show (1 : Int32) = nI 1 from rfl, show (2 : Int32) = nI 2 from rfl, x1, x2, x3, x4, x5, x6, y1, y2, y3, y4, y5, y6, b1_some]
  have hS : ∃ r, fX5_ring m_harbour = some r := by
    unfold fX5_ring
    simp only [show (0 : Int32) = nI 0 from rfl, show (1 : Int32) = nI 1 from rfl, show (2 : Int32) = nI 2 from rfl, y1, y2, y3, y4, y5, y6, b1_some]
    split
    · split
      · exact ⟨_, rfl⟩
      · split
        · exact ⟨_, rfl⟩
        · split <;> exact ⟨_, rfl⟩
    · split
      · split
        · exact ⟨_, rfl⟩
        · split
          · exact ⟨_, rfl⟩
          · split <;> exact ⟨_, rfl⟩
      · split
        · split
          · exact ⟨_, rfl⟩
          · split
            · exact ⟨_, rfl⟩
            · split <;> exact ⟨_, rfl⟩
        · exact ⟨_, rfl⟩
  obtain ⟨r, e⟩ := hS
  exact ⟨r, hX.trans e, e, hR⟩
theorem q_now3 {nb g : Nat} {h at_ now : Nat → Int32} (R : tr_1 nb g at_ now) (h0 : h 0 = nI nb) (hnb : nb ≤ 18) : ∃ x, fX1_open at_ (nI nb) = some x ∧ fX5_now h now 3 = some x ∧ (∀ i, i < 32 → bt x i = true → 1 ≤ i ∧ i ≤ nb ∧ now (8 + i) = -9) ∧ (¬ now 7 = -9 → x = 0) := by
  obtain ⟨x, e1, e2, gx, hx⟩ := r1_open R h0 hnb
  have hw : ¬ now 7 = -9 → x = 0 := fun q => by
    obtain ⟨p, hp, -, hc⟩ := R.2.2.2.2.2.2
    rcases hc with ⟨-, -, e, -⟩ | ⟨q', -, -, -, -, -, e8⟩
    · exact absurd e q
    · apply hx
      rcases R.2.2.2.2.2.1 with ⟨-, e⟩ | ⟨a, b, c, ha, hb, hc', e, -⟩
      · exact e
      · rw [e] at e8; exact absurd e8 (nI_m9 (by omega))
  refine ⟨x, e1, ?_, gx, hw⟩
  unfold fX5_now
  rw [if_neg (by decide), if_neg (by decide), if_neg (by decide), if_pos rfl, r1_isWon R, b1_some]
  by_cases q : now 7 = -9
  · rw [if_pos q, if_pos rfl, e2, b1_some]
  · rw [if_neg q, if_neg (by decide), hw q]
theorem s_now : sm_now tr_R := by
  intro x_text x_typed t_pips t_many t_berths t_goal r_fault r_length r_kind r_start r_next r_number r_dice r_bt r_gt d_pips d_many d_berths d_goal a_shown a_calm a_windy a_turns a_many a_ever c_at c_past c_known i_at i_past i_known j_at j_past j_known x_kept x_cb x_ct x_chalked x_traced m_text m_size m_at m_begin m_token m_told m_read m_harbour m_now m_undone m_undos m_one m_two m_three m_chalks m_cb m_co m_trace m_kept p1 hR
  have hR' := hR
  obtain ⟨nb, g, k, pp, H, A, U, I0, I1, Ck, X, tr⟩ := hR'
  have hnb := H.1.2.1
  have hg9 := H.1.2.2.2
  have hh0 := H.2.2.2.2.1
  have hh1 := H.2.2.2.2.2
  obtain rfl := H.2.2.1
  obtain rfl := H.2.2.2.1
  obtain rfl := A.1
  obtain ⟨w, hw, w1, w2⟩ := U.1.2.2.2.2.1
  have e2 : c_at 8 = m_now 2 := by
    rcases U.1.2.2.2.2.2.1 with ⟨a, b⟩ | ⟨a, b, c, -, -, -, x, y⟩
    · rw [a, b]
    · rw [x, y]
  obtain ⟨v0, -, t0, t0'⟩ := U.1.2.2.1 0 (by decide)
  obtain ⟨v1, -, t1, t1'⟩ := U.1.2.2.1 1 (by decide)
  obtain ⟨x, x1, x2, -, -⟩ := q_now3 U.1 hh0 hnb
  by_cases s0 : p1 = 0
  · subst s0
    exact ⟨m_now 0, by unfold fX4_now; rw [if_pos rfl, r1_who U.1 hg9, b1_some], rfl, hR⟩
  by_cases s1 : p1 = 1
  · subst s1
    exact ⟨m_now 1, by unfold fX4_now fX1_wind; rw [if_neg (by decide), if_pos rfl, b1_some, w1, w2], rfl, hR⟩
  by_cases s2 : p1 = 2
  · subst s2
    exact ⟨m_now 2, by unfold fX4_now fX1_shown; rw [if_neg (by decide), if_neg (by decide), if_pos rfl, b1_some, e2], rfl, hR⟩
  by_cases s3 : p1 = 3
  · subst s3
    exact ⟨x, by unfold fX4_now; rw [if_neg (by decide), if_neg (by decide), if_neg (by decide), if_pos rfl, x1, b1_some], x2, hR⟩
  unfold fX4_now fX5_now
  rw [if_neg s0, if_neg s1, if_neg s2, if_neg s3, if_neg s0, if_neg s1, if_neg s2, if_neg s3]
  by_cases s4 : p1 = 4
  · exact ⟨m_now 7, by rw [if_pos s4, r1_winner U.1 hg9, b1_some], by rw [if_pos s4], hR⟩
  rw [if_neg s4, if_neg s4]
  by_cases s5 : p1 = 5
  · refine ⟨m_now 3 - m_now 4, ?_, by rw [if_pos s5], hR⟩
    rw [if_pos s5, show fX1_tidesOf c_at 0 = _ from r1_tidesOf (q := 0) (by decide), b1_some, show fX1_tidesOf c_at 1 = _ from r1_tidesOf (q := 1) (by decide), b1_some, t0, t1]
    rw [show m_now 3 = _ from t0', show m_now 4 = _ from t1']
  exact ⟨-1000000, by rw [if_neg s5], by rw [if_neg s5], hR⟩
theorem s_player : sm_player tr_R := by
  intro x_text x_typed t_pips t_many t_berths t_goal r_fault r_length r_kind r_start r_next r_number r_dice r_bt r_gt d_pips d_many d_berths d_goal a_shown a_calm a_windy a_turns a_many a_ever c_at c_past c_known i_at i_past i_known j_at j_past j_known x_kept x_cb x_ct x_chalked x_traced m_text m_size m_at m_begin m_token m_told m_read m_harbour m_now m_undone m_undos m_one m_two m_three m_chalks m_cb m_co m_trace m_kept p1 p2 hR
  have hR' := hR
  obtain ⟨nb, g, k, pp, H, A, U, I0, I1, Ck, X, tr⟩ := hR'
  have hnb := H.1.2.1
  have hg9 := H.1.2.2.2
  have hh0 := H.2.2.2.2.1
  have hh1 := H.2.2.2.2.2
  obtain rfl := H.2.2.1
  obtain rfl := H.2.2.2.1
  obtain rfl := A.1
  unfold fX4_player fX5_player
  rw [tr_in01, b1_some, q_ifeq, in_iff, b1_some, q_ifne, show (0 : Int64).toInt = 0 from rfl, show (3 : Int64).toInt = 3 from rfl]
  simp only [lt_toInt, show (0 : Int32).toInt = 0 from rfl, show (2 : Int32).toInt = 2 from rfl]
  by_cases hp : p1 = 0 ∨ p1 = 1
  · obtain ⟨q, hq, rfl⟩ : ∃ q, q < 2 ∧ p1 = nI q := hp.elim (fun e => ⟨0, by decide, e⟩) (fun e => ⟨1, by decide, e⟩)
    have ht : (nI q).toInt = (q : Int) := tr_toInt (by omega)
    rw [if_neg (show ¬ (nI q).toInt < 0 by omega), if_pos (show (nI q).toInt < 2 by omega), if_pos hp]
    obtain ⟨v, -, t1, t2⟩ := U.1.2.2.1 q hq
    obtain ⟨v2, hv2, b1', b2'⟩ := U.1.2.2.2.1 q hq
    by_cases s0 : p2 = 0
    · subst s0
      refine ⟨c_at q, m_one, m_two, m_three, ?_, ?_, hR⟩
      · rw [if_pos rfl, r1_berthsOf hq, b1_some]
      · rw [if_pos (by decide), if_neg (fun z => z rfl), r1_berths U.1 hh0 hnb hq, b1_some]
    by_cases s1 : p2 = 1
    · subst s1
      refine ⟨nI v, m_one, m_two, m_three, ?_, ?_, hR⟩
      · rw [if_neg (by decide), if_pos rfl, r1_tidesOf hq, b1_some, t1]
      · rw [if_pos (by decide), if_pos (by decide), if_neg (fun z => z rfl), show (3 : Int32) = nI 3 from rfl, nI_add, ck_nI (by omega) (by decide), cl_nI (by omega), t2]
    by_cases s2 : p2 = 2
    · subst s2
      refine ⟨nI v2, m_one, m_two, m_three, ?_, ?_, hR⟩
      · rw [if_neg (by decide), if_neg (by decide), if_pos rfl, r1_isBlind U.1 hq, b1_some, b1']
        rcases (show v2 = 0 ∨ v2 = 1 by omega) with rfl | rfl
        · rfl
        · rfl
      · rw [if_pos (by decide), if_pos (by decide), if_pos (by decide), if_neg (fun z => z rfl), show (5 : Int32) = nI 5 from rfl, nI_add, ck_nI (by omega) (by decide), cl_nI (by omega), b2']
    by_cases s3 : p2 = 3
    · subst s3
      rw [if_neg s0, if_neg s1, if_neg s2, if_pos rfl, if_pos (by decide), if_pos (by decide), if_pos (by decide), if_pos (by decide)]
      unfold fX4_raceOf fX5_race
      rw [r1_berthsOf hq, b1_some, bc_PC, b1_some, nm_is, r1_berths U.1 hh0 hnb hq, b1_some, many_PC, b1_some, hh1, nm_is]
      by_cases hz : 0 < nI g - nI (PC (c_at q))
      · rw [if_pos hz, if_pos hz]
        obtain ⟨u1, u2, u3, e⟩ := tr_everM H m_one m_two m_three
        obtain ⟨fr, ef, gf⟩ := r1_freeM U.1 hh0 hnb
        have hN := tr_N_le H
        have hin : ∀ n, n ≤ tr_N k → ∀ i, i < 32 → bt (tr_ev nb k pp n) i = true → 1 ≤ i ∧ i ≤ nb := by
          intro n
          induction n with
          | zero => intro _ i hi hb; rw [tr_ev, b_0] at hb; cases hb
          | succ n ih =>
            intro hn i hi hb
            rw [tr_ev, b_or, b_or] at hb
            simp only [Bool.or_eq_true] at hb
            rcases hb with q1 | q1 | q1
            · exact ih (by omega) i hi q1
            · exact tr_o_in H (by decide) (by omega) hi q1
            · exact tr_o_in H (by decide) (by omega) hi q1
        have hs : a_ever &&& ((c_at 0 ||| c_at 1) ^^^ (-1)) = tr_ev nb k pp (tr_N k) &&& fr := by
          rw [A.2.2]
          apply b_ext
          intro i hi
          rw [b_and, b_and]
          cases e9 : bt (tr_ev nb k pp (tr_N k)) i with
          | false => rfl
          | true =>
            obtain ⟨i1, i2⟩ := hin _ (Nat.le_refl _) i hi e9
            rw [bt_not _ hi, b_or, gf i hi, decide_eq_true ⟨i1, i2⟩, Bool.true_and, Bool.true_and]
        rw [r1_freeC, b1_some, bc_PC, b1_some, e, b4_some, ef, b1_some, many_PC, b1_some, hs]
        by_cases hc : nI g - nI (PC (c_at q)) ≤ nI (PC (tr_ev nb k pp (tr_N k) &&& fr))
        · exact ⟨_, u1, u2, u3, by rw [if_pos hc]; rfl, by rw [if_pos hc]; rfl, hR⟩
        · exact ⟨_, u1, u2, u3, by rw [if_neg hc]; rfl, by rw [if_neg hc]; rfl, hR⟩
      · exact ⟨0, m_one, m_two, m_three, by rw [if_neg hz]; rfl, by rw [if_neg hz]; rfl, hR⟩
    · have hout : ¬ (0 ≤ p2.toInt ∧ p2.toInt ≤ 3) := fun z => by
        obtain ⟨n, -, hn, -, rfl⟩ := nI_mid (x := p2) (a := 0) (b := 3) (by omega) (by omega)
        rcases (show n = 0 ∨ n = 1 ∨ n = 2 ∨ n = 3 by omega) with rfl | rfl | rfl | rfl
        · exact s0 rfl
        · exact s1 rfl
        · exact s2 rfl
        · exact s3 rfl
      exact ⟨-1, m_one, m_two, m_three, by rw [if_neg s0, if_neg s1, if_neg s2, if_neg s3], by rw [if_neg hout], hR⟩
  · refine ⟨-1, m_one, m_two, m_three, ?_, by rw [if_neg hp], hR⟩
    have h01 : ¬ (0 ≤ p1.toInt ∧ p1.toInt ≤ 1) := fun z => by
      obtain ⟨n, -, hn, -, rfl⟩ := nI_mid (x := p1) (a := 0) (b := 1) (by omega) (by omega)
      rcases (show n = 0 ∨ n = 1 by omega) with rfl | rfl
      · exact hp (Or.inl rfl)
      · exact hp (Or.inr rfl)
    by_cases h1 : p1.toInt < 0
    · rw [if_pos h1]
    · rw [if_neg h1, if_neg (by omega)]
