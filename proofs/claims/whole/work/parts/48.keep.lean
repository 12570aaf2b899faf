/-! images -/
theorem trU_cong {nb g : Nat} {at_ past now un at' past' now' un' : Nat → Int32} {known undos : Int32} (hnb : nb ≤ 18) (U : tr_U nb g at_ past known now un undos) (h1 : ∀ i, i < 9 → at' i = at_ i) (h2 : ∀ i, i < 108 → past' i = past i) (h3 : ∀ i, i < 27 → now' i = now i) (h4 : ∀ i, i < 324 → un' i = un i) : tr_U nb g at' past' known now' un' undos := by
  obtain ⟨R, u, hu, e1, e2, hr⟩ := U
  exact ⟨r1_cong hnb R h1 h3, u, hu, e1, e2, fun j hj => r1_cong hnb (hr j hj) (fun i hi => h2 _ (by omega)) (fun i hi => h4 _ (by omega))⟩
theorem trI_cong {nb g im : Nat} {kept kept' at_ past mk mk' : Nat → Int32} {known : Int32} (hnb : nb ≤ 18) (I : tr_I nb g im kept at_ past known mk) (h1 : kept' im = kept im) (h2 : ∀ k, 353 * im ≤ k → k < 353 * im + 353 → mk' k = mk k) : tr_I nb g im kept' at_ past known mk' := by
  rcases I with ⟨a, b⟩ | ⟨a, b, c⟩
  · exact Or.inl ⟨h1.trans a, (h2 _ (by omega) (by omega)).trans b⟩
  · refine Or.inr ⟨h1.trans a, (h2 _ (by omega) (by omega)).trans b, ?_⟩
    rw [h2 (353 * im + 1) (by omega) (by omega)]
    exact trU_cong hnb c (fun _ _ => rfl) (fun _ _ => rfl) (fun i hi => h2 _ (by omega) (by omega)) (fun i hi => h2 _ (by omega) (by omega))
theorem y_bec (c_at c_past g_at g_past : Nat → Int32) (g_known : Int32) : ∃ a b, fX1_becomes c_at c_past g_at g_past g_known = some (a, b, g_known) ∧ (∀ i, i < 9 → a i = g_at i) ∧ (∀ i, i < 108 → b i = g_past i) := by
  refine ⟨va_cpy g_at c_at 0 0 9, va_cpy g_past c_past 0 0 108, ?_, fun i hi => ?_, fun i hi => ?_⟩
  · unfold fX1_becomes tg_cp
    rw [if_neg (by decide), nm_is, if_neg (by decide), nm_is]; rfl
  · unfold va_cpy
    rw [if_pos (by omega), Nat.sub_zero, Nat.zero_add]
  · unfold va_cpy
    rw [if_pos (by omega), Nat.sub_zero, Nat.zero_add]
theorem q_keepM {now un mk : Nat → Int32} {undos : Int32} {im : Nat} (him : im < 2) : ∃ mk', fX5_keep now un undos mk (nI im) = some (now 0, mk') ∧ mk' (353 * im) = 1 ∧ mk' (353 * im + 1) = undos ∧ (∀ i, i < 27 → mk' (353 * im + 2 + i) = now i) ∧ (∀ i, i < 324 → mk' (353 * im + 29 + i) = un i) ∧ ∀ k, (k < 353 * im ∨ 353 * im + 353 ≤ k) → mk' k = mk k := by
  obtain ⟨f1, x1, y1⟩ := y_keep (now := now) him 400 0 (upd (upd mk (353 * im) 1) (353 * im + 1) undos) (by omega) (by omega)
  obtain ⟨f2, x2, y2⟩ := y_keeps (un := un) him 400 0 f1 (by omega) (by omega)
  refine ⟨f2, ?_, ?_, ?_, fun i hi => ?_, fun i hi => ?_, fun k hk => ?_⟩
  · unfold fX5_keep
    rw [tr_in01, b1_some, q_ifne, if_pos (by rcases (show im = 0 ∨ im = 1 by omega) with rfl | rfl; exact Or.inl rfl; exact Or.inr rfl), show (353 : Int32) = nI 353 from rfl, pk_mul, nm_is, ck_nI (show 353 * im < 706 by omega) (by decide), cl_nI (show 353 * im < 2 ^ 31 by omega), nm_is, nI_1, ck_nI (show 353 * im + 1 < 706 by omega) (by decide), cl_nI (show 353 * im + 1 < 2 ^ 31 by omega), nm_is, show fX5_keep_L39 now (nI (353 * im)) 400 _ 0 = _ from x1, b2_some, show fX5_keep_L69 un (nI (353 * im)) 400 f1 0 = _ from x2, b2_some]
  · rw [y2, if_neg (by omega), y1, if_neg (by omega), u_no (by omega), u_at]
  · rw [y2, if_neg (by omega), y1, if_neg (by omega), u_at]
  · rw [y2, if_neg (by omega), y1, if_pos (by omega)]; exact congrArg now (by omega)
  · rw [y2, if_pos (by omega)]; exact congrArg un (by omega)
  · rw [y2, if_neg (by omega), y1, if_neg (by omega), u_no (by omega), u_no (by omega)]
theorem q_backM {now un mk : Nat → Int32} {undos : Int32} {im : Nat} (him : im < 2) (hk : mk (353 * im) = 1) : ∃ now' un', fX5_back now un undos mk (nI im) = some (now' 0, now', un', mk (353 * im + 1)) ∧ (∀ i, i < 27 → now' i = mk (353 * im + 2 + i)) ∧ (∀ i, i < 324 → un' i = mk (353 * im + 29 + i)) := by
  obtain ⟨f1, x1, y1⟩ := y_back (mk := mk) him 400 0 now (by omega) (by omega)
  obtain ⟨f2, x2, y2⟩ := y_backs (mk := mk) him 400 0 un (by omega) (by omega)
  refine ⟨f1, f2, ?_, fun i hi => ?_, fun i hi => ?_⟩
  · unfold fX5_back
    rw [tr_in01, b1_some, q_ifne, if_pos (by rcases (show im = 0 ∨ im = 1 by omega) with rfl | rfl; exact Or.inl rfl; exact Or.inr rfl), show (353 : Int32) = nI 353 from rfl, pk_mul, nm_is, ck_nI (show 353 * im < 706 by omega) (by decide), cl_nI (show 353 * im < 2 ^ 31 by omega), hk, if_pos (by decide), nI_1, ck_nI (show 353 * im + 1 < 706 by omega) (by decide), cl_nI (show 353 * im + 1 < 2 ^ 31 by omega), nm_is, show fX5_back_L44 mk (nI (353 * im)) 400 _ 0 = _ from x1, b2_some, show fX5_back_L74 mk (nI (353 * im)) 400 un 0 = _ from x2, b2_some]
  · rw [y1, if_pos (by omega), Nat.sub_zero]
  · rw [y2, if_pos (by omega), Nat.sub_zero]
theorem y_back0 {now un mk : Nat → Int32} {undos : Int32} {im : Nat} (him : im < 2) (hk : mk (353 * im) = 0) : fX5_back now un undos mk (nI im) = some (-2, now, un, undos) := by
  unfold fX5_back
  rw [tr_in01, b1_some, q_ifne, if_pos (by rcases (show im = 0 ∨ im = 1 by omega) with rfl | rfl; exact Or.inl rfl; exact Or.inr rfl), show (353 : Int32) = nI 353 from rfl, pk_mul, nm_is, ck_nI (show 353 * im < 706 by omega) (by decide), cl_nI (show 353 * im < 2 ^ 31 by omega), hk, if_neg (by decide)]
theorem s_keep : sm_keep tr_R := by
  intro x_text x_typed t_pips t_many t_berths t_goal r_fault r_length r_kind r_start r_next r_number r_dice r_bt r_gt d_pips d_many d_berths d_goal a_shown a_calm a_windy a_turns a_many a_ever c_at c_past c_known i_at i_past i_known j_at j_past j_known x_kept x_cb x_ct x_chalked x_traced m_text m_size m_at m_begin m_token m_told m_read m_harbour m_now m_undone m_undos m_one m_two m_three m_chalks m_cb m_co m_trace m_kept p1 hR
  have hR' := hR
  obtain ⟨nb, g, k, pp, H, A, U, I0, I1, Ck, X, tr⟩ := hR'
  have hnb := H.1.2.1
  have hg9 := H.1.2.2.2
  have hh0 := H.2.2.2.2.1
  have hh1 := H.2.2.2.2.2
  obtain rfl := H.2.2.1
  obtain rfl := H.2.2.2.1
  obtain rfl := A.1
  by_cases h0 : p1 = 0
  · subst h0
    obtain ⟨mk', k1, k2, k3, k4, k5, k6⟩ := q_keepM (now := m_now) (un := m_undone) (undos := m_undos) (mk := m_kept) (im := 0) (by omega)
    obtain ⟨a, b, b1, b2, b3⟩ := y_bec i_at i_past c_at c_past c_known
    refine ⟨m_now 0, a, b, c_known, j_at, j_past, j_known, upd x_kept 0 1, mk', ?_, k1, nb, g, k, pp, H, A, U, Or.inr ⟨u_at, k2, ?_⟩, trI_cong hnb I1 (u_no (by omega)) (fun k h1 h2 => k6 k (by omega)), Ck, X, tr⟩
    · unfold fX4_keep
      rw [show fX4_isImage 0 = some 1 from rfl, b1_some, if_pos (by decide), if_pos rfl, b1, b3_some, r1_who U.1 hg9]; rfl
    · rw [k3]; exact trU_cong hnb U b2 b3 k4 k5
  · by_cases h1 : p1 = 1
    · subst h1
      obtain ⟨mk', k1, k2, k3, k4, k5, k6⟩ := q_keepM (now := m_now) (un := m_undone) (undos := m_undos) (mk := m_kept) (im := 1) (by omega)
      obtain ⟨a, b, b1, b2, b3⟩ := y_bec j_at j_past c_at c_past c_known
      refine ⟨m_now 0, i_at, i_past, i_known, a, b, c_known, upd x_kept 1 1, mk', ?_, k1, nb, g, k, pp, H, A, U, trI_cong hnb I0 (u_no (by omega)) (fun k h1 h2 => k6 k (by omega)), Or.inr ⟨u_at, k2, ?_⟩, Ck, X, tr⟩
      · unfold fX4_keep
        rw [show fX4_isImage 1 = some 1 from rfl, b1_some, if_pos (by decide), if_neg (by decide), if_pos rfl, b1, b3_some, r1_who U.1 hg9]; rfl
      · rw [k3]; exact trU_cong hnb U b2 b3 k4 k5
    · refine ⟨-1, i_at, i_past, i_known, j_at, j_past, j_known, x_kept, m_kept, ?_, ?_, hR⟩
      · unfold fX4_keep
        rw [q_isImage, b1_some, q_ifne, if_neg (fun z => ?_)]
        obtain ⟨n, n1, n2, n3, rfl⟩ := nI_mid (a := 0) (b := 1) z.1 z.2
        rcases (show n = 0 ∨ n = 1 by omega) with rfl | rfl
        · exact h0 rfl
        · exact h1 rfl
      · unfold fX5_keep
        rw [tr_in01, b1_some, q_ifne, if_neg (fun z => z.elim h0 h1)]
theorem s_back : sm_back tr_R := by
  intro x_text x_typed t_pips t_many t_berths t_goal r_fault r_length r_kind r_start r_next r_number r_dice r_bt r_gt d_pips d_many d_berths d_goal a_shown a_calm a_windy a_turns a_many a_ever c_at c_past c_known i_at i_past i_known j_at j_past j_known x_kept x_cb x_ct x_chalked x_traced m_text m_size m_at m_begin m_token m_told m_read m_harbour m_now m_undone m_undos m_one m_two m_three m_chalks m_cb m_co m_trace m_kept p1 hR
  have hR' := hR
  obtain ⟨nb, g, k, pp, H, A, U, I0, I1, Ck, X, tr⟩ := hR'
  have hnb := H.1.2.1
  have hg9 := H.1.2.2.2
  have hh0 := H.2.2.2.2.1
  have hh1 := H.2.2.2.2.2
  obtain rfl := H.2.2.1
  obtain rfl := H.2.2.2.1
  obtain rfl := A.1
  by_cases h0 : p1 = 0
  · subst h0
    rcases I0 with ⟨z1, z2⟩ | ⟨z1, z2, z3⟩
    · refine ⟨-2, c_at, c_past, c_known, m_now, m_undone, m_undos, ?_, y_back0 (im := 0) (by omega) z2, hR⟩
      unfold fX4_back
      rw [show fX4_isImage 0 = some 1 from rfl, b1_some, if_pos (by decide), show tg_ck 0 2 _ = _ from ck_nI (i := 0) (by omega) (by decide), show x_kept (Int32.toNatClampNeg 0) = 0 from z1, if_neg (by decide)]
    · obtain ⟨now', un', k1, k2, k3⟩ := q_backM (now := m_now) (un := m_undone) (undos := m_undos) (mk := m_kept) (im := 0) (by omega) z2
      obtain ⟨a, b, b1, b2, b3⟩ := y_bec c_at c_past i_at i_past i_known
      have U' : tr_U nb g a b i_known now' un' (m_kept (353 * 0 + 1)) := trU_cong hnb z3 b2 b3 k2 k3
      refine ⟨now' 0, a, b, i_known, now', un', m_kept (353 * 0 + 1), ?_, k1, nb, g, k, pp, H, A, U', Or.inr ⟨z1, z2, z3⟩, I1, Ck, X, tr⟩
      unfold fX4_back
      rw [show fX4_isImage 0 = some 1 from rfl, b1_some, if_pos (by decide), show tg_ck 0 2 _ = _ from ck_nI (i := 0) (by omega) (by decide), show x_kept (Int32.toNatClampNeg 0) = 1 from z1, if_pos (by decide), if_pos rfl, b1, b3_some, r1_who U'.1 hg9, b1_some]
  · by_cases h1 : p1 = 1
    · subst h1
      rcases I1 with ⟨z1, z2⟩ | ⟨z1, z2, z3⟩
      · refine ⟨-2, c_at, c_past, c_known, m_now, m_undone, m_undos, ?_, y_back0 (im := 1) (by omega) z2, hR⟩
        unfold fX4_back
        rw [show fX4_isImage 1 = some 1 from rfl, b1_some, if_pos (by decide), show tg_ck 1 2 _ = _ from ck_nI (i := 1) (by omega) (by decide), show x_kept (Int32.toNatClampNeg 1) = 0 from z1, if_neg (by decide)]
      · obtain ⟨now', un', k1, k2, k3⟩ := q_backM (now := m_now) (un := m_undone) (undos := m_undos) (mk := m_kept) (im := 1) (by omega) z2
        obtain ⟨a, b, b1, b2, b3⟩ := y_bec c_at c_past j_at j_past j_known
        have U' : tr_U nb g a b j_known now' un' (m_kept (353 * 1 + 1)) := trU_cong hnb z3 b2 b3 k2 k3
        refine ⟨now' 0, a, b, j_known, now', un', m_kept (353 * 1 + 1), ?_, k1, nb, g, k, pp, H, A, U', I0, Or.inr ⟨z1, z2, z3⟩, Ck, X, tr⟩
        unfold fX4_back
        rw [show fX4_isImage 1 = some 1 from rfl, b1_some, if_pos (by decide), show tg_ck 1 2 _ = _ from ck_nI (i := 1) (by omega) (by decide), show x_kept (Int32.toNatClampNeg 1) = 1 from z1, if_pos (by decide), if_neg (by decide), if_pos rfl, b1, b3_some, r1_who U'.1 hg9, b1_some]
    · refine ⟨-1, c_at, c_past, c_known, m_now, m_undone, m_undos, ?_, ?_, hR⟩
      · unfold fX4_back
        rw [q_isImage, b1_some, q_ifne, if_neg (fun z => ?_)]
        obtain ⟨n, n1, n2, n3, rfl⟩ := nI_mid (a := 0) (b := 1) z.1 z.2
        rcases (show n = 0 ∨ n = 1 by omega) with rfl | rfl
        · exact h0 rfl
        · exact h1 rfl
      · unfold fX5_back
        rw [tr_in01, b1_some, q_ifne, if_neg (fun z => z.elim h0 h1)]
