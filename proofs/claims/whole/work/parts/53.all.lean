/-! the items of a harbour; the harbour; all calls; the start -/
theorem z_stuck {n : Nat} {xt : Nat → Int32} {f : Int32} (hf : ¬ f = -9) (m : Nat) (a1 a2 a3 a4 a5 a6 a7 : Int32) (a8 a9 : Nat → Int32) (a10 a11 i : Int32) : fX2_readItems_L54 (nI n) xt (m + 1) f a1 a2 a3 a4 a5 a6 a7 a8 a9 a10 a11 i = some (f, a1, a2, a3, a4, a5, a6, a7, a8, a9, a10, a11, i) := by
  rw [fX2_readItems_L54, if_pos hf, ite_self, ite_self]
theorem y_items {c : Nat → Nat} {xt mt : Nat → Int32} {n : Nat} (t : TX c xt mt n) (h now kept : Nat → Int32) (undos chalks : Int32) : ∀ (m i : Nat) (kind num at_ token told : Int32) (s e : Nat) (pips many : Nat → Int32) (berths goal : Int32) (rd : Nat → Int32) (dice bb gg : Int32), s ≤ n → e ≤ n → (¬ kind = 0 → s < n) → i ≤ s → n + 2 ≤ s + m → Tk c n kind s e num at_ token told → Dr pips many berths goal rd dice bb gg → (∃ (f : Nat) (a1 a2 a3 a4 a5 a6 a7 : Int32) (a8 a9 : Nat → Int32) (a10 a11 i' b1 b2 b3 : Int32) (b4 : Nat → Int32), f < 2 ^ 31 ∧ fX2_readItems_L54 (nI n) xt m (-9) kind (nI s) (nI e) num dice bb gg pips many berths goal (nI i) = some (nI f, a1, a2, a3, a4, a5, a6, a7, a8, a9, a10, a11, i') ∧ fX5_harbour_L15 mt (nI n) h now undos chalks kept m at_ (nI s) token told rd (nI i) = some ((-10) - nI f, nI n, b1, nI f, b2, b3, b4, h, now, undos, chalks, kept)) ∨ (∃ (a1 a2 a3 a4 dice' bb' gg' : Int32) (pips' many' : Nat → Int32) (berths' goal' i' b1 b2 b3 b4 : Int32) (rd' : Nat → Int32), fX2_readItems_L54 (nI n) xt m (-9) kind (nI s) (nI e) num dice bb gg pips many berths goal (nI i) = some (-9, a1, a2, a3, a4, dice', bb', gg', pips', many', berths', goal', i') ∧ Dr pips' many' berths' goal' rd' dice' bb' gg' ∧ fX5_harbour_L15 mt (nI n) h now undos chalks kept m at_ (nI s) token told rd (nI i) = tg_b5 (fX5_takesAll rd' h now kept) fun gg9 gg10 vv11 vv12 gg13 => some (i', 0, b1, b2, b3, b4, rd', gg9, gg10, vv11, vv12, gg13))
  | 0, i, kind, num, at_, token, told, s, e, pips, many, berths, goal, rd, dice, bb, gg, h1, h2, h3, h4, h5, K, D => by omega
  | m + 1, i, kind, num, at_, token, told, s, e, pips, many, berths, goal, rd, dice, bb, gg, h1, h2, h3, h4, h5, K, D => by
    have hn := t.1
    rw [fX2_readItems_L54, fX5_harbour_L15]
    rcases y_0 K with ⟨k0, t0⟩ | ⟨k0, t0⟩
    · right
      rw [if_pos k0, ite_self, if_pos t0]
      exact ⟨_, _, _, _, _, _, _, _, _, _, _, _, _, _, _, _, _, rfl, D, rfl⟩
    · have hs := h3 k0
      rw [if_neg (nI_ge (show i < n by omega) (by omega)), if_neg k0, if_neg (fun q => q rfl), if_neg t0]
      rcases y_item t hs h2 K D with ⟨f, a1, a2, a3, a4, a5, a6, a7, a8, a9, a10, a11, b1, b2, b3, b4, q0, q1, q2⟩ | ⟨kind', s', e', num', dice', bb', gg', pips', many', berths', goal', b1, b2, b3, b4, rd', at', token', told', q1, q2, q3, q4, q5, q6, q7, q8, q9⟩
      · left
        obtain ⟨m', rfl⟩ : ∃ m', m = m' + 1 := ⟨m - 1, by omega⟩
        rw [q1, b12_some, nm_is, z_stuck (y_m9 f q0), q2, b6_some, if_neg (by decide)]
        exact ⟨f, _, _, _, _, _, _, _, _, _, _, _, _, _, _, _, _, q0, rfl, rfl⟩
      · rw [q1, b12_some, nm_is, q2, b6_some, if_pos (by decide), nm_is, q3, b4_some, nI_1]
        exact y_items t h now kept undos chalks m (i + 1) kind' num' at' token' told' s' e' pips' many' berths' goal' rd' dice' bb' gg' q5 q6 q7 (by omega) (by omega) q8 q9
theorem z_bec (t_pips t_many d_pips d_many : Nat → Int32) (b gl : Int32) : ∃ p m, fX3_becomes t_pips t_many d_pips d_many b gl = some (p, m, b, gl) ∧ (∀ i, i < 18 → p i = d_pips i) ∧ (∀ i, i < 3 → m i = d_many i) := by
  refine ⟨va_cpy d_pips t_pips 0 0 18, va_cpy d_many t_many 0 0 3, ?_, fun i hi => ?_, fun i hi => ?_⟩
  · unfold fX3_becomes tg_cp
    rw [if_neg (by decide), nm_is, if_neg (by decide), nm_is]; rfl
  · unfold va_cpy
    rw [if_pos (by omega), Nat.sub_zero, Nat.zero_add]
  · unfold va_cpy
    rw [if_pos (by omega), Nat.sub_zero, Nat.zero_add]
theorem z_H {nb g : Nat} {k : Nat → Nat} {pp : Nat → Nat → Nat} {pips many pips' many' h : Nat → Int32} {b gl : Int32} (H : tr_H nb g k pp pips many b gl h) (h1 : ∀ i, i < 18 → pips' i = pips i) (h2 : ∀ i, i < 3 → many' i = many i) : tr_H nb g k pp pips' many' b gl h :=
  ⟨H.1, fun d hd => by
    obtain ⟨z1, z2, z3, z4⟩ := H.2.1 d hd
    exact ⟨z1, (h2 d hd).trans z2, z3, fun i hi => ⟨(z4 i hi).1, (h1 _ (by omega)).trans (z4 i hi).2.1, (z4 i hi).2.2⟩⟩, H.2.2⟩
theorem z_73 (kept : Nat → Int32) : fX4_harbour_L73 400 kept 0 = some (upd (upd kept 0 0) 1 0, 2) := by
  rw [show (400 : Nat) = 397 + 1 + 1 + 1 from rfl, fX4_harbour_L73, if_neg (by decide), show tg_ck 0 2 _ = _ from ck_nI (i := 0) (by decide) (by decide), nm_is, nm_is, fX4_harbour_L73, if_neg (by decide), show tg_ck (0 + 1) 2 _ = _ from ck_nI (i := 1) (by decide) (by decide), nm_is, nm_is, fX4_harbour_L73, if_pos (by decide)]; rfl
theorem s_harbour : sm_harbour tr_R := by
  intro x_text x_typed t_pips t_many t_berths t_goal r_fault r_length r_kind r_start r_next r_number r_dice r_bt r_gt d_pips d_many d_berths d_goal a_shown a_calm a_windy a_turns a_many a_ever c_at c_past c_known i_at i_past i_known j_at j_past j_known x_kept x_cb x_ct x_chalked x_traced m_text m_size m_at m_begin m_token m_told m_read m_harbour m_now m_undone m_undos m_one m_two m_three m_chalks m_cb m_co m_trace m_kept hR
  have hR' := hR
  obtain ⟨nb, g, k, pp, H, A, U, I0, I1, Ck, X, tr⟩ := hR'
  have hnb := H.1.2.1
  have hg9 := H.1.2.2.2
  have hh0 := H.2.2.2.2.1
  have hh1 := H.2.2.2.2.2
  obtain rfl := H.2.2.1
  obtain rfl := H.2.2.2.1
  obtain rfl := A.1
  obtain ⟨n, hn, e1, e2, hx⟩ := X
  have t : TX (fun j => (x_text j).toNatClampNeg) x_text m_text n := ⟨hn, fun j hj => by
    obtain ⟨v, hv, x1, x2⟩ := hx j hj
    have : (x_text j).toNatClampNeg = v := by rw [x1, cl_nI (by omega)]
    exact ⟨by show (x_text j).toNatClampNeg < 256; omega, by show x_text j = nI (x_text j).toNatClampNeg; rw [this, x1], by show m_text j = nI (x_text j).toNatClampNeg; rw [this, x2]⟩⟩
  obtain ⟨p, mm, r, f1, f2, H0, r2, r3⟩ := z_first d_pips d_many m_read
  obtain ⟨kind, s, e, num, at', token, told, g1, g2, g3, g4, g5, g6, K⟩ := y_adv t (a := 0) (by omega) r_number m_told
  have hlen : (if 120 < nI n then (120 : Int32) else nI n) = nI n := if_neg (show ¬ (120 : Int32) < nI n from nI_nlt (a := 120) hn (by decide))
  subst e1 e2
  rcases y_items t m_harbour m_now m_kept m_undos m_chalks 400 0 kind num at' token told s e p mm (nI 12) (nI 4) r (nI 0) (nI 0) (nI 0) g4 g5 g6 (by omega) (by omega) K ⟨12, 4, _, _, 0, 0, 0, H0, by omega, rfl, r2, by omega, rfl, by omega, rfl, r3⟩ with ⟨f, a1, a2, a3, a4, a5, a6, a7, a8, a9, a10, a11, i', b1, b2, b3, b4, q0, q1, q2⟩ | ⟨a1, a2, a3, a4, dice', bb', gg', pips', many', berths', goal', i', b1, b2, b3, b4, rd', q1, D', q2⟩
  · have hC : fX4_harbour x_text (nI n) t_pips t_many (nI nb) (nI g) r_number d_pips d_many a_shown a_calm a_windy a_turns (nI (tr_N k)) a_ever c_at c_known x_kept x_chalked = some ((-10) - nI f, nI n, t_pips, t_many, nI nb, nI g, nI f, nI n, a1, a2, a3, a4, a5, a6, a7, a8, a9, a10, a11, a_shown, a_calm, a_windy, a_turns, nI (tr_N k), a_ever, c_at, c_known, x_kept, x_chalked) := by
      unfold fX4_harbour fX2_readItems
      rw [hlen, nm_is, f1, b4_some, show fX2_advance (nI n) 0 r_number x_text = _ from g1, b4_some, show fX2_readItems_L54 (nI n) x_text 400 (-9) kind (nI s) (nI e) num 0 0 0 p mm (nI 12) (nI 4) 0 = _ from q1, b13_some, b14_some, if_neg (y_m9 f q0)]
    have hM : fX5_harbour m_text (nI n) m_told m_read m_harbour m_now m_undos m_chalks m_kept = some ((-10) - nI f, nI n, b1, nI f, b2, b3, b4, m_harbour, m_now, m_undos, m_chalks, m_kept) := by
      unfold fX5_harbour
      rw [f2, b1_some, show fX5_reads m_text (nI n) 0 m_told = _ from g2, b4_some]
      exact q2
    exact ⟨_, _, _, _, _, _, _, _, _, _, _, _, _, _, _, _, _, _, _, _, _, _, _, _, _, _, _, _, _, _, _, _, _, _, _, _, _, _, _, _, hC, hM, hR⟩
  · obtain ⟨nb', g', k', pp', -, -, -, H', -⟩ := D'
    obtain ⟨tp, tm, z1, z2, z3⟩ := z_bec t_pips t_many pips' many' berths' goal'
    obtain ⟨h', now', kept', w1, w2, w3, w4, w5⟩ := z_takes H' m_harbour m_now m_kept
    have H2 := z_H w2 z2 z3
    obtain ⟨s', ca', wi', tu', mn', ev', y1, A'⟩ := tr_make H2 a_shown a_calm a_windy a_turns
    obtain ⟨a, x1, x2, x3⟩ := z_begin c_at
    have hC : fX4_harbour x_text (nI n) t_pips t_many (nI nb) (nI g) r_number d_pips d_many a_shown a_calm a_windy a_turns (nI (tr_N k)) a_ever c_at c_known x_kept x_chalked = some (i', 0, tp, tm, berths', goal', -9, nI n, a1, a2, a3, a4, dice', bb', gg', pips', many', berths', goal', s', ca', wi', tu', mn', ev', a, 0, upd (upd x_kept 0 0) 1 0, 0) := by
      unfold fX4_harbour fX2_readItems
      rw [hlen, nm_is, f1, b4_some, show fX2_advance (nI n) 0 r_number x_text = _ from g1, b4_some, show fX2_readItems_L54 (nI n) x_text 400 (-9) kind (nI s) (nI e) num 0 0 0 p mm (nI 12) (nI 4) 0 = _ from q1, b13_some, b14_some, if_pos rfl, z1, b4_some, y1, b6_some, x1, b2_some, z_73, b2_some]
    have hM : fX5_harbour m_text (nI n) m_told m_read m_harbour m_now m_undos m_chalks m_kept = some (i', 0, b1, b2, b3, b4, rd', h', now', 0, 0, kept') := by
      unfold fX5_harbour
      rw [f2, b1_some, show fX5_reads m_text (nI n) 0 m_told = _ from g2, b4_some]
      refine q2.trans ?_
      rw [w1, b5_some]
    have hR2 : tr_R x_text 0 tp tm berths' goal' s' ca' wi' tu' mn' ev' a c_past 0 i_at i_past i_known j_at j_past j_known (upd (upd x_kept 0 0) 1 0) x_cb x_ct 0 x_traced m_text 0 h' now' m_undone 0 0 m_cb m_co m_trace kept' :=
      ⟨nb', g', k', pp', H2, A', ⟨z_row H2.1.2.1 H2.1.2.2.1 x2 x3 w3, 0, by omega, rfl, rfl, fun j hj => by omega⟩, Or.inl ⟨rfl, w4⟩, Or.inl ⟨rfl, w5⟩, ⟨0, by omega, rfl, rfl, fun j hj => by omega⟩, ⟨0, by omega, rfl, rfl, fun j hj => by omega⟩, tr⟩
    exact ⟨_, _, _, _, _, _, _, _, _, _, _, _, _, _, _, _, _, _, _, _, _, _, _, _, _, _, _, _, _, _, _, _, _, _, _, _, _, _, _, _, hC, hM, hR2⟩
theorem tr_all : sm_all tr_R := ⟨s_type, s_clear, s_harbour, s_die, s_berth, s_player, s_throwsDice, s_takes, s_passes, s_leaves, s_undo, s_now, s_chance, s_odds, s_wise, s_cheap, s_ever, s_chalks, s_wipes, s_wrong, s_off, s_bet, s_third, s_threw, s_beats, s_ring, s_mark, s_keep, s_back, s_count, s_trace⟩
theorem tr_init : sm_init tr_R := by
  obtain ⟨p, mm, r, f1, f2, H0, r2, r3⟩ := z_first (fun _ => 0) (fun _ => 0) (fun _ => 0)
  obtain ⟨h', now', kept', w1, w2, w3, w4, w5⟩ := z_takes H0 (fun _ => 0) (fun _ => 0) (fun _ => 0)
  obtain ⟨s', ca', wi', tu', mn', ev', y1, A'⟩ := tr_make w2 (fun _ => 0) (fun _ => 0) (fun _ => 0) (fun _ => 0)
  obtain ⟨a, x1, x2, x3⟩ := z_begin (fun _ => 0)
  have e3 : fX3_init = some (p, mm, nI 12, nI 4) := by unfold fX3_init; rw [f1, b4_some]
  have e2 : fX2_init = some (p, mm, nI 12, nI 4) := by unfold fX2_init; rw [e3, b4_some]
  have e1 : fX1_init = some (a, 0) := by unfold fX1_init; rw [x1, b2_some]
  have hC : fX4_init = some (p, mm, nI 12, nI 4, p, mm, nI 12, nI 4, s', ca', wi', tu', mn', ev', a, 0, a, 0, a, 0) := by
    unfold fX4_init; rw [e3, b4_some, e2, b4_some, e1, b2_some, b2_some, b2_some, y1, b6_some]
  have hM : fX5_init = some (r, h', now', 0, 0, kept') := by
    unfold fX5_init; rw [f2, b1_some, w1, b5_some]
  exact ⟨_, _, _, _, _, _, _, _, _, _, _, _, _, _, _, _, _, _, _, _, _, _, _, _, _, _, hC, hM, 12, 4, _, _, w2, A', ⟨z_row (by omega) (by omega) x2 x3 w3, 0, by omega, rfl, rfl, fun j hj => by omega⟩, Or.inl ⟨rfl, w4⟩, Or.inl ⟨rfl, w5⟩, ⟨0, by omega, rfl, rfl, fun j hj => by omega⟩, ⟨0, by omega, rfl, rfl, fun j hj => by omega⟩, rfl⟩
