/-! odds -/
section TRO
variable {nb g : Nat} {k : Nat → Nat} {pp : Nat → Nat → Nat} {t_pips t_many : Nat → Int32} {t_berths t_goal : Int32} {h at_ now : Nat → Int32} {s ca wi tu : Nat → Int32} {many ever : Int32}
theorem q_and0 (H : tr_H nb g k pp t_pips t_many t_berths t_goal h) {w t : Nat} (hw : w < 2) (ht : t < tr_N k) {S1 S2 : Int32} (hS : ∀ i, 1 ≤ i → i ≤ nb → bt S1 i = bt S2 i) : (tr_th nb k pp w t &&& S1) = (tr_th nb k pp w t &&& S2) := by
  apply b_ext
  intro i hi
  rw [b_and, b_and]
  cases e : bt (tr_th nb k pp w t) i with
  | false => rfl
  | true =>
    obtain ⟨h1, h2⟩ := tr_th_in H hw ht hi e
    rw [hS i h1 h2]
theorem q_ct (H : tr_H nb g k pp t_pips t_many t_berths t_goal h) {w : Nat} (hw : w < 2) {S1 S2 : Int32} (hS : ∀ i, 1 ≤ i → i ≤ nb → bt S1 i = bt S2 i) : tr_ct nb k pp w S1 (tr_N k) = tr_ct nb k pp w S2 (tr_N k) :=
  fb_ct_cong (fun t ht => by rw [q_and0 H hw ht hS])
/-- by how many throws a berth is open now, alike -/
theorem q_ch (H : tr_H nb g k pp t_pips t_many t_berths t_goal h) (A : tr_A nb k pp s ca wi tu many ever) (R : tr_1 nb g at_ now) {b : Nat} (b1 : 1 ≤ b) (b2 : b ≤ nb) : ∃ n, n ≤ tr_N k ∧ fX4_throwsFor ca wi tu many at_ (nI b) = some (nI n) ∧ ∀ o1 o2 o3, ∃ q1 q2 q3, fX5_chances h now o1 o2 o3 (nI b) = some (nI n, q1, q2, q3) := by
  obtain ⟨w, hw, w1, w2⟩ := R.2.2.2.2.1
  obtain ⟨fr, ef, gf⟩ := r1_freeM R H.2.2.2.2.1 H.1.2.1
  have hnb := H.1.2.1
  refine ⟨tr_ct nb k pp w ((1 <<< (nI b &&& 31)) &&& fr) (tr_N k), tr_ct_le _ _ _, ?_, fun o1 o2 o3 => ?_⟩
  · unfold fX4_throwsFor fX4_bit fX1_wind
    rw [r1_freeC, b1_some, b1_some, b1_some, w1, tr_many H A hw, b1_some]
    congr 2
    apply q_ct H hw
    intro i h1 h2
    rw [b_and, b_and, bt_not _ (by omega), b_or, gf i (by omega), decide_eq_true ⟨h1, h2⟩, Bool.true_and, Bool.and_comm]
  · unfold fX5_chances
    rw [ef, b1_some]
    obtain ⟨q1, q2, q3, e⟩ := tr_for H hw w2 ((1 <<< (nI b &&& 31)) &&& fr) o1 o2 o3
    exact ⟨q1, q2, q3, by rw [e]; rfl⟩
/-- by how many throws something is open now, alike -/
theorem q_some (H : tr_H nb g k pp t_pips t_many t_berths t_goal h) (A : tr_A nb k pp s ca wi tu many ever) (R : tr_1 nb g at_ now) {w : Nat} (hw : w < 2) (w1 : at_ 6 = nI w) (w2 : now 1 = nI w) {fr : Int32} (gf : ∀ i, i < 32 → bt fr i = (decide (1 ≤ i ∧ i ≤ nb) && !(bt (at_ 0) i || bt (at_ 1) i))) : fX0_manyOpening ca wi tu many ((at_ 0 ||| at_ 1) ^^^ (-1)) (nI w) = some (nI (tr_ct nb k pp w fr (tr_N k))) := by
  have hnb := H.1.2.1
  rw [tr_many H A hw]
  congr 2
  apply q_ct H hw
  intro i h1 h2
  rw [bt_not _ (by omega), b_or, gf i (by omega), decide_eq_true ⟨h1, h2⟩, Bool.true_and]
theorem q_pcs : ∀ (f n : Nat), pcN f n = fb_sm (fun i => n / 2 ^ i % 2) f
  | 0, n => rfl
  | f + 1, n => by
    rw [pcN, q_pcs f (n / 2), Nat.add_comm f 1, fb_sm_split]
    have e : fb_sm (fun i => n / 2 ^ i % 2) 1 = n % 2 := by rw [fb_sm_succ]; simp [fb_sm]
    rw [e]
    congr 1
    apply fb_sm_cong
    intro i _
    rw [Nat.add_comm 1 i, Nat.pow_succ, Nat.mul_comm, ← Nat.div_div_eq_div_mul]
theorem q_ctsm (p : Nat → Bool) : ∀ n, fb_ct p n = fb_sm (fun i => if p i then 1 else 0) n
  | 0 => rfl
  | n + 1 => by rw [fb_ct_succ, fb_sm_succ, q_ctsm p n]
theorem q_PC (x : Int32) : PC x = fb_ct (fun i => bt x i) 32 := by
  unfold PC
  rw [q_pcs, q_ctsm]
  apply fb_sm_cong
  intro i _
  show _ = if bt x i = true then 1 else 0
  have e : bt x i = x.toBitVec.toNat.testBit i := rfl
  rw [e, Nat.testBit_eq_decide_div_mod_eq]
  rcases Nat.mod_two_eq_zero_or_one (x.toBitVec.toNat / 2 ^ i) with q | q
  · rw [q]; rfl
  · rw [q]; rfl
theorem q_swap (p : Nat → Nat → Bool) (N : Nat) : ∀ M, fb_sm (fun t => fb_ct (p t) M) N = fb_sm (fun i => fb_ct (fun t => p t i) N) M
  | 0 => by
    show fb_sm (fun t => 0) N = 0
    rw [fb_sm_const, Nat.mul_zero]
  | M + 1 => by
    rw [fb_sm_succ, ← q_swap p N M, q_ctsm (fun t => p t M) N, ← fb_sm_add]
    rfl
/-- the mean: counted by throws, counted by berths -/
theorem q_mean (H : tr_H nb g k pp t_pips t_many t_berths t_goal h) {w : Nat} (hw : w < 2) {S fr : Int32} (hS : ∀ i, 1 ≤ i → i ≤ nb → bt S i = bt fr i) : tr_sm nb k pp w S (tr_N k) = fb_sm (fun j => tr_ct nb k pp w ((1 <<< (nI (1 + j) &&& 31)) &&& fr) (tr_N k)) nb := by
  have hnb := H.1.2.1
  unfold tr_sm
  have e1 : fb_sm (fun t => PC (tr_th nb k pp w t &&& S)) (tr_N k) = fb_sm (fun t => fb_ct (fun i => bt (tr_th nb k pp w t &&& fr) i) 32) (tr_N k) := fb_sm_cong (fun t ht => by rw [q_PC, q_and0 H hw ht hS])
  rw [e1, q_swap (fun t i => bt (tr_th nb k pp w t &&& fr) i), show 32 = 1 + (nb + (31 - nb)) by omega, fb_sm_split, fb_sm_split]
  have z0 : fb_sm (fun i => fb_ct (fun t => bt (tr_th nb k pp w t &&& fr) i) (tr_N k)) 1 = 0 := by
    rw [fb_sm_succ]
    have : fb_ct (fun t => bt (tr_th nb k pp w t &&& fr) 0) (tr_N k) = 0 := fb_ct_zero.mpr (fun t ht => by
      rw [b_and]
      cases e : bt (tr_th nb k pp w t) 0 with
      | false => rfl
      | true => have := (tr_th_in H hw ht (by decide) e).1; omega)
    rw [this]; rfl
  have z1 : fb_sm (fun i => fb_ct (fun t => bt (tr_th nb k pp w t &&& fr) (1 + (nb + i))) (tr_N k)) (31 - nb) = 0 := by
    have : fb_sm (fun i => fb_ct (fun t => bt (tr_th nb k pp w t &&& fr) (1 + (nb + i))) (tr_N k)) (31 - nb) = fb_sm (fun _ => 0) (31 - nb) := fb_sm_cong (fun i hi => fb_ct_zero.mpr (fun t ht => by
      rw [b_and]
      cases e : bt (tr_th nb k pp w t) (1 + (nb + i)) with
      | false => rfl
      | true => have := (tr_th_in H hw ht (by omega) e).2; omega))
    rw [this, fb_sm_const, Nat.mul_zero]
  rw [z0, z1, Nat.zero_add, Nat.add_zero]
  apply fb_sm_cong
  intro j hj
  unfold tr_ct
  apply fb_ct_cong
  intro t ht
  rw [b_and]
  by_cases e : (tr_th nb k pp w t &&& ((1 <<< (nI (1 + j) &&& 31)) &&& fr)) = 0
  · have := bt_zero.mp e (1 + j) (by omega)
    rw [b_and, b_and, bt_bit (by omega) (by omega), decide_eq_true rfl, Bool.true_and] at this
    rw [this]
    simp [e]
  · obtain ⟨i, hi, hb⟩ := bt_ne.mp e
    rw [b_and, b_and, bt_bit (by omega) hi] at hb
    simp only [Bool.and_eq_true, decide_eq_true_eq] at hb
    obtain ⟨x1, rfl, x3⟩ := hb
    rw [x1, x3]
    simp [e]
theorem q_oddsL (H : tr_H nb g k pp t_pips t_many t_berths t_goal h) {w : Nat} (hw : w < 2) (w2 : now 1 = nI w) {fr : Int32} (ef : fX5_free h now = some fr) : ∀ (m j : Nat) (o1 o2 o3 : Int32), j ≤ nb → nb + 1 ≤ j + m → ∃ q1 q2 q3, fX5_odds_L63 h now m o1 o2 o3 (nI (fb_sm (fun j => tr_ct nb k pp w ((1 <<< (nI (1 + j) &&& 31)) &&& fr) (tr_N k)) j)) (nI (1 + j)) = some (q1, q2, q3, nI (fb_sm (fun j => tr_ct nb k pp w ((1 <<< (nI (1 + j) &&& 31)) &&& fr) (tr_N k)) nb), nI (1 + nb))
  | 0, j, o1, o2, o3, h1, h2 => by omega
  | m + 1, j, o1, o2, o3, h1, h2 => by
    have hnb := H.1.2.1
    rw [fX5_odds_L63]
    by_cases hz : nb ≤ j
    · have e : j = nb := by omega
      subst e
      rw [if_pos (by rw [H.2.2.2.2.1]; exact nI_lt (by omega) (by omega))]
      exact ⟨_, _, _, rfl⟩
    · rw [if_neg (by rw [H.2.2.2.2.1]; exact nI_nlt (by omega) (by omega))]
      unfold fX5_chances
      rw [ef, b1_some]
      obtain ⟨q1, q2, q3, e⟩ := tr_for H hw w2 ((1 <<< (nI (1 + j) &&& 31)) &&& fr) o1 o2 o3
      rw [e, b4_some, b4_some, nm_is, nI_add, nm_is, nI_1, ← fb_sm_succ, Nat.add_assoc 1 j 1]
      exact q_oddsL H hw w2 ef m (j + 1) q1 q2 q3 (by omega) (by omega)
end TRO
theorem s_chance : sm_chance tr_R := by
  intro x_text x_typed t_pips t_many t_berths t_goal r_fault r_length r_kind r_start r_next r_number r_dice r_bt r_gt d_pips d_many d_berths d_goal a_shown a_calm a_windy a_turns a_many a_ever c_at c_past c_known i_at i_past i_known j_at j_past j_known x_kept x_cb x_ct x_chalked x_traced m_text m_size m_at m_begin m_token m_told m_read m_harbour m_now m_undone m_undos m_one m_two m_three m_chalks m_cb m_co m_trace m_kept p1 p2 hR
  have hR' := hR
  obtain ⟨nb, g, k, pp, H, A, U, I0, I1, Ck, X, tr⟩ := hR'
  have hnb := H.1.2.1
  have hg9 := H.1.2.2.2
  have hh0 := H.2.2.2.2.1
  have hh1 := H.2.2.2.2.2
  obtain rfl := H.2.2.1
  obtain rfl := H.2.2.2.1
  obtain rfl := A.1
  have hN := tr_N_le H
  unfold fX4_chance fX5_chance
  rw [q_isBerthC hnb, b1_some, q_ifeq, q_isBerthM hnb hh0, b1_some, q_ifeq, tr_isPart, b1_some, q_ifne, tr_in01, b1_some, q_ifeq]
  by_cases hb : 1 ≤ p1.toInt ∧ p1.toInt ≤ (nb : Int)
  · obtain ⟨b, b1, b2, rfl⟩ := q_berth hb
    rw [if_pos hb, if_pos hb]
    by_cases hp : p2 = 0 ∨ p2 = 1
    · obtain ⟨n, hn, e1, e2⟩ := q_ch H A U.1 b1 b2
      obtain ⟨q1, q2, q3, e2⟩ := e2 m_one m_two m_three
      obtain ⟨r, r1, r2⟩ := tr_part (u := n) (v := tr_N k) (by omega) hN.1 (by omega) hp
      refine ⟨r, q1, q2, q3, ?_, ?_, hR⟩
      · rw [if_pos hp, e1, b1_some, r1, b1_some]
      · rw [if_pos hp, e2, b4_some, tr_throwsOf H, b1_some, r2, b1_some]
    · exact ⟨-1, m_one, m_two, m_three, by rw [if_neg hp], by rw [if_neg hp], hR⟩
  · exact ⟨-1, m_one, m_two, m_three, by rw [if_neg hb], by rw [if_neg hb], hR⟩
theorem s_odds : sm_odds tr_R := by
  intro x_text x_typed t_pips t_many t_berths t_goal r_fault r_length r_kind r_start r_next r_number r_dice r_bt r_gt d_pips d_many d_berths d_goal a_shown a_calm a_windy a_turns a_many a_ever c_at c_past c_known i_at i_past i_known j_at j_past j_known x_kept x_cb x_ct x_chalked x_traced m_text m_size m_at m_begin m_token m_told m_read m_harbour m_now m_undone m_undos m_one m_two m_three m_chalks m_cb m_co m_trace m_kept p1 p2 hR
  have hR' := hR
  obtain ⟨nb, g, k, pp, H, A, U, I0, I1, Ck, X, tr⟩ := hR'
  have hnb := H.1.2.1
  have hg9 := H.1.2.2.2
  have hh0 := H.2.2.2.2.1
  have hh1 := H.2.2.2.2.2
  obtain rfl := H.2.2.1
  obtain rfl := H.2.2.2.1
  obtain rfl := A.1
  have hN := tr_N_le H
  obtain ⟨w, hw, w1, w2⟩ := U.1.2.2.2.2.1
  obtain ⟨fr, ef, gf⟩ := r1_freeM U.1 hh0 hnb
  have hsome := q_some H A U.1 hw w1 w2 gf
  have hle : tr_ct nb k pp w fr (tr_N k) ≤ tr_N k := tr_ct_le _ _ _
  unfold fX4_odds fX5_odds
  rw [tr_isPart, b1_some, q_ifne, in_iff, b1_some, q_ifeq, tr_in01, b1_some, q_ifne, show (0 : Int64).toInt = 0 from rfl, show (2 : Int64).toInt = 2 from rfl]
  by_cases hp : p2 = 0 ∨ p2 = 1
  · unfold fX1_wind
    obtain ⟨q1, q2, q3, e3⟩ := tr_for H hw w2 fr m_one m_two m_three
    rw [if_pos hp, if_pos hp]
    simp only [r1_freeC, b1_some, w1, hsome, ef, e3, b4_some, tr_throwsOf H]
    by_cases s0 : p1 = 0
    · obtain ⟨u1, u2, u3, e4⟩ := q_oddsL H hw w2 ef 400 0 q1 q2 q3 (by omega) (by omega)
      obtain ⟨r, r1, r2⟩ := tr_part (u := tr_N k - tr_ct nb k pp w fr (tr_N k)) (v := tr_N k) (by omega) hN.1 (by omega) hp
      refine ⟨r, u1, u2, u3, ?_, ?_, hR⟩
      · rw [if_pos s0, pk_sub hle, r1, b1_some]
      · rw [if_pos (by rw [s0]; decide), if_pos (by rw [s0]; decide)]
        have e5 : fX5_odds_L63 m_harbour m_now 400 q1 q2 q3 0 1 = _ := e4
        rw [e5, b5_some, if_neg (show ¬ ¬ p1 = 0 from fun q => q s0), b1_some, pk_sub hle, r2, b1_some]
    · rw [if_neg s0]
      by_cases s1 : p1 = 1
      · rw [if_pos s1, if_pos (show 0 ≤ p1.toInt ∧ p1.toInt ≤ 2 by rw [s1]; decide), if_neg (show ¬ ¬ p1 = 1 from fun q => q s1)]
        by_cases hz : tr_ct nb k pp w fr (tr_N k) = 0
        · exact ⟨-9, q1, q2, q3, by rw [hz, if_neg (show ¬ ¬ nI 0 = 0 from fun q => q rfl)], by rw [hz, if_neg (show ¬ ¬ nI 0 = 0 from fun q => q rfl)], hR⟩
        · have hne := nI_ne0 (n := tr_ct nb k pp w fr (tr_N k)) (by omega) (by omega)
          obtain ⟨r, r1, r2⟩ := tr_part (u := tr_N k) (v := tr_ct nb k pp w fr (tr_N k)) (by omega) (by omega) (by omega) hp
          exact ⟨r, q1, q2, q3, by rw [if_pos hne, r1, b1_some], by rw [if_pos hne, r2, b1_some], hR⟩
      · rw [if_neg s1]
        by_cases s2 : p1 = 2
        · obtain ⟨u1, u2, u3, e4⟩ := q_oddsL H hw w2 ef 400 0 q1 q2 q3 (by omega) (by omega)
          have hm := q_mean H hw (S := (c_at 0 ||| c_at 1) ^^^ (-1)) (fr := fr) (fun i h1 h2 => by rw [bt_not _ (by omega), b_or, gf i (by omega), decide_eq_true ⟨h1, h2⟩, Bool.true_and])
          have hb2 : tr_sm nb k pp w ((c_at 0 ||| c_at 1) ^^^ (-1)) (tr_N k) ≤ tr_N k * 32 := fb_sm_bound (fun t _ => PC_le _)
          obtain ⟨r, r1, r2⟩ := tr_part (u := tr_sm nb k pp w ((c_at 0 ||| c_at 1) ^^^ (-1)) (tr_N k)) (v := tr_N k) (by omega) hN.1 (by omega) hp
          refine ⟨r, u1, u2, u3, ?_, ?_, hR⟩
          · rw [if_pos s2, tr_sum H A hw, b1_some, r1, b1_some]
          · rw [if_pos (show 0 ≤ p1.toInt ∧ p1.toInt ≤ 2 by rw [s2]; decide), if_pos s1]
            have e5 : fX5_odds_L63 m_harbour m_now 400 q1 q2 q3 0 1 = _ := e4
            rw [e5, b5_some, if_pos s0, b1_some, ← hm, r2, b1_some]
        · have hout : ¬ (0 ≤ p1.toInt ∧ p1.toInt ≤ 2) := fun q => by
            obtain ⟨n, -, hn, -, rfl⟩ := nI_mid (x := p1) (a := 0) (b := 2) (by omega) (by omega)
            rcases (show n = 0 ∨ n = 1 ∨ n = 2 by omega) with rfl | rfl | rfl
            · exact s0 rfl
            · exact s1 rfl
            · exact s2 rfl
          exact ⟨-1, m_one, m_two, m_three, by rw [if_neg s2], by rw [if_neg hout], hR⟩
  · rw [if_neg hp]
    refine ⟨-1, m_one, m_two, m_three, rfl, ?_, hR⟩
    by_cases hq : 0 ≤ p1.toInt ∧ p1.toInt ≤ 2
    · rw [if_pos hq, if_neg hp]
    · rw [if_neg hq]
