/-! THE RELATION between the class's state and the reference's -/
def tr_U (nb g : Nat) (at_ past : Nat → Int32) (known : Int32) (now undone : Nat → Int32) (undos : Int32) : Prop :=
  tr_1 nb g at_ now ∧ ∃ u, u ≤ 12 ∧ known = nI u ∧ undos = nI u ∧ ∀ j, j < u → tr_1 nb g (fun i => past (9 * j + i)) (fun i => undone (27 * j + i))
def tr_I (nb g im : Nat) (kept : Nat → Int32) (at_ past : Nat → Int32) (known : Int32) (mk : Nat → Int32) : Prop :=
  (kept im = 0 ∧ mk (353 * im) = 0) ∨ (kept im = 1 ∧ mk (353 * im) = 1 ∧ tr_U nb g at_ past known (fun i => mk (353 * im + 2 + i)) (fun i => mk (353 * im + 29 + i)) (mk (353 * im + 1)))
def tr_C (nb : Nat) (cb ct : Nat → Int32) (n : Int32) (mb mo : Nat → Int32) (mn : Int32) : Prop :=
  ∃ c, c ≤ 6 ∧ n = nI c ∧ mn = nI c ∧ ∀ j, j < c → cb j = mb j ∧ ct j = mo j ∧ (∃ b, 1 ≤ b ∧ b ≤ nb ∧ mb j = nI b) ∧ ∃ v, v ≤ 216 ∧ mo j = nI v
def tr_X (xt : Nat → Int32) (n : Int32) (mt : Nat → Int32) (mn : Int32) : Prop :=
  ∃ c, c ≤ 120 ∧ n = nI c ∧ mn = nI c ∧ ∀ j, j < c → ∃ v, v < 256 ∧ xt j = nI v ∧ mt j = nI v
def tr_R (x_text : Nat → Int32) (x_typed : Int32) (t_pips : Nat → Int32) (t_many : Nat → Int32) (t_berths : Int32) (t_goal : Int32) (a_shown : Nat → Int32) (a_calm : Nat → Int32) (a_windy : Nat → Int32) (a_turns : Nat → Int32) (a_many : Int32) (a_ever : Int32) (c_at : Nat → Int32) (c_past : Nat → Int32) (c_known : Int32) (i_at : Nat → Int32) (i_past : Nat → Int32) (i_known : Int32) (j_at : Nat → Int32) (j_past : Nat → Int32) (j_known : Int32) (x_kept : Nat → Int32) (x_cb : Nat → Int32) (x_ct : Nat → Int32) (x_chalked : Int32) (x_traced : Int64) (m_text : Nat → Int32) (m_size : Int32) (m_harbour : Nat → Int32) (m_now : Nat → Int32) (m_undone : Nat → Int32) (m_undos : Int32) (m_chalks : Int32) (m_cb : Nat → Int32) (m_co : Nat → Int32) (m_trace : Int64) (m_kept : Nat → Int32) : Prop :=
  ∃ (nb g : Nat) (k : Nat → Nat) (pp : Nat → Nat → Nat), tr_H nb g k pp t_pips t_many t_berths t_goal m_harbour ∧ tr_A nb k pp a_shown a_calm a_windy a_turns a_many a_ever ∧ tr_U nb g c_at c_past c_known m_now m_undone m_undos ∧ tr_I nb g 0 x_kept i_at i_past i_known m_kept ∧ tr_I nb g 1 x_kept j_at j_past j_known m_kept ∧ tr_C nb x_cb x_ct x_chalked m_cb m_co m_chalks ∧ tr_X x_text x_typed m_text m_size ∧ x_traced = m_trace
theorem s_clear : sm_clear tr_R := by
  intro x_text x_typed t_pips t_many t_berths t_goal r_fault r_length r_kind r_start r_next r_number r_dice r_bt r_gt d_pips d_many d_berths d_goal a_shown a_calm a_windy a_turns a_many a_ever c_at c_past c_known i_at i_past i_known j_at j_past j_known x_kept x_cb x_ct x_chalked x_traced m_text m_size m_at m_begin m_token m_told m_read m_harbour m_now m_undone m_undos m_one m_two m_three m_chalks m_cb m_co m_trace m_kept hR
  obtain ⟨nb, g, k, pp, H, A, U, I0, I1, Ck, ⟨c, hc, e1, e2, hx⟩, tr⟩ := hR
  refine ⟨nI c, _, _, ?_, ?_, nb, g, k, pp, H, A, U, I0, I1, Ck, ⟨0, by omega, rfl, rfl, fun j hj => by omega⟩, tr⟩
  · unfold fX4_clear; rw [e1]; rfl
  · unfold fX5_clear; rw [e2]; rfl
theorem s_wipes : sm_wipes tr_R := by
  intro x_text x_typed t_pips t_many t_berths t_goal r_fault r_length r_kind r_start r_next r_number r_dice r_bt r_gt d_pips d_many d_berths d_goal a_shown a_calm a_windy a_turns a_many a_ever c_at c_past c_known i_at i_past i_known j_at j_past j_known x_kept x_cb x_ct x_chalked x_traced m_text m_size m_at m_begin m_token m_told m_read m_harbour m_now m_undone m_undos m_one m_two m_three m_chalks m_cb m_co m_trace m_kept hR
  obtain ⟨nb, g, k, pp, H, A, U, I0, I1, ⟨c, hc, e1, e2, hx⟩, X, tr⟩ := hR
  refine ⟨nI c, _, _, ?_, ?_, nb, g, k, pp, H, A, U, I0, I1, ⟨0, by omega, rfl, rfl, fun j hj => by omega⟩, X, tr⟩
  · unfold fX4_wipes; rw [e1]; rfl
  · unfold fX5_wipes; rw [e2]; rfl
theorem s_trace : sm_trace tr_R := by
  intro x_text x_typed t_pips t_many t_berths t_goal r_fault r_length r_kind r_start r_next r_number r_dice r_bt r_gt d_pips d_many d_berths d_goal a_shown a_calm a_windy a_turns a_many a_ever c_at c_past c_known i_at i_past i_known j_at j_past j_known x_kept x_cb x_ct x_chalked x_traced m_text m_size m_at m_begin m_token m_told m_read m_harbour m_now m_undone m_undos m_one m_two m_three m_chalks m_cb m_co m_trace m_kept hR
  have hR' := hR
  obtain ⟨nb, g, k, pp, H, A, U, I0, I1, Ck, X, tr⟩ := hR'
  refine ⟨x_traced, rfl, ?_, hR⟩
  unfold fX5_trace; rw [tr]
theorem s_ever : sm_ever tr_R := by
  intro x_text x_typed t_pips t_many t_berths t_goal r_fault r_length r_kind r_start r_next r_number r_dice r_bt r_gt d_pips d_many d_berths d_goal a_shown a_calm a_windy a_turns a_many a_ever c_at c_past c_known i_at i_past i_known j_at j_past j_known x_kept x_cb x_ct x_chalked x_traced m_text m_size m_at m_begin m_token m_told m_read m_harbour m_now m_undone m_undos m_one m_two m_three m_chalks m_cb m_co m_trace m_kept hR
  have hR' := hR
  obtain ⟨nb, g, k, pp, H, A, U, I0, I1, Ck, X, tr⟩ := hR'
  obtain ⟨q1, q2, q3, e⟩ := tr_everM H m_one m_two m_three
  refine ⟨a_ever, q1, q2, q3, rfl, ?_, hR⟩
  rw [e, A.2.2]
theorem s_count : sm_count tr_R := by
  intro x_text x_typed t_pips t_many t_berths t_goal r_fault r_length r_kind r_start r_next r_number r_dice r_bt r_gt d_pips d_many d_berths d_goal a_shown a_calm a_windy a_turns a_many a_ever c_at c_past c_known i_at i_past i_known j_at j_past j_known x_kept x_cb x_ct x_chalked x_traced m_text m_size m_at m_begin m_token m_told m_read m_harbour m_now m_undone m_undos m_one m_two m_three m_chalks m_cb m_co m_trace m_kept p1 hR
  have hR' := hR
  obtain ⟨nb, g, k, pp, H, A, U, I0, I1, ⟨c, hc, e1, e2, hx⟩, ⟨n, hn, f1, f2, -⟩, tr⟩ := hR'
  obtain ⟨-, u, hu, u1, u2, -⟩ := U
  unfold fX4_count fX5_count
  by_cases s0 : p1 = 0
  · exact ⟨t_berths, by rw [if_pos s0], by rw [if_pos s0]; subst s0; show some (m_harbour 0) = _; rw [H.2.2.2.2.1, H.2.2.1], hR⟩
  by_cases s1 : p1 = 1
  · exact ⟨t_goal, by rw [if_neg s0, if_pos s1], by rw [if_neg s0, if_pos s1]; subst s1; show some (m_harbour 1) = _; rw [H.2.2.2.2.2, H.2.2.2.1], hR⟩
  by_cases s2 : p1 = 2
  · exact ⟨a_many, by rw [if_neg s0, if_neg s1, if_pos s2], by rw [if_neg s0, if_neg s1, if_pos s2, tr_throwsOf H, b1_some, A.1], hR⟩
  by_cases s3 : p1 = 3
  · exact ⟨x_chalked, by rw [if_neg s0, if_neg s1, if_neg s2, if_pos s3], by rw [if_neg s0, if_neg s1, if_neg s2, if_pos s3, e1, e2], hR⟩
  by_cases s4 : p1 = 4
  · exact ⟨c_known, by rw [if_neg s0, if_neg s1, if_neg s2, if_neg s3, if_pos s4], by rw [if_neg s0, if_neg s1, if_neg s2, if_neg s3, if_pos s4, u1, u2], hR⟩
  by_cases s5 : p1 = 5
  · exact ⟨x_typed, by rw [if_neg s0, if_neg s1, if_neg s2, if_neg s3, if_neg s4, if_pos s5], by rw [if_neg s0, if_neg s1, if_neg s2, if_neg s3, if_neg s4, if_pos s5, f1, f2], hR⟩
  exact ⟨-1, by rw [if_neg s0, if_neg s1, if_neg s2, if_neg s3, if_neg s4, if_neg s5], by rw [if_neg s0, if_neg s1, if_neg s2, if_neg s3, if_neg s4, if_neg s5], hR⟩
