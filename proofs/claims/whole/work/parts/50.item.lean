/-! items, alike -/
theorem y_bz0 {β : Type} {k : Option β} : tg_bz 0 k = k := if_pos (Or.inl rfl)
theorem y_bz1 {β : Type} {k : Option β} : tg_bz 1 k = k := if_pos (Or.inr rfl)
theorem y_m9 (f : Nat) (h : f < 2 ^ 31) : ¬ nI f = -9 := nI_m9 h
section ITM
variable {c : Nat → Nat} {xt mt : Nat → Int32} {n : Nat}
theorem y_num {kind num at_ token told : Int32} {s e lo hi : Nat} (K : Tk c n kind s e num at_ token told) (hl : lo < 100) (hh : hi < 100) {A B : Int64} (hA : A.toInt = (lo : Int)) (hB : B.toInt = (hi : Int)) : (∃ v, lo ≤ v ∧ v ≤ hi ∧ num = nI v ∧ told = nI v ∧ kind = 2 ∧ token = 2 ∧ at_ = nI e ∧ s < e ∧ fX2_isNumber kind num (nI lo) (nI hi) = some 1 ∧ fX5_in told.toInt64 A B = some 1) ∨ (fX2_isNumber kind num (nI lo) (nI hi) = some 0 ∧ ((¬ token = 2 ∧ ¬ kind = 2) ∨ (token = 2 ∧ kind = 2 ∧ fX5_in told.toInt64 A B = some 0))) := by
  unfold fX2_isNumber
  rcases K with ⟨rfl, rfl⟩ | ⟨rfl, -, -, -, h⟩ | ⟨rfl, rfl, h1, h2, h3, v, hv, rfl, rfl⟩ | ⟨rfl, rfl, -⟩ | ⟨rfl, rfl, -⟩
  · exact Or.inr ⟨rfl, Or.inl ⟨by decide, by decide⟩⟩
  · refine Or.inr ⟨rfl, Or.inl ⟨?_, by decide⟩⟩
    rcases h with ⟨-, -, rfl, -⟩ | ⟨-, rfl⟩ <;> decide
  · rw [if_neg (fun q => q rfl), in_iff, hA, hB, tr_toInt (by omega)]
    by_cases q : lo ≤ v ∧ v ≤ hi
    · left
      exact ⟨v, q.1, q.2, rfl, rfl, rfl, rfl, h3, h1, by rw [if_neg (nI_nlt q.1 (by omega)), if_neg (nI_nlt q.2 (by omega))], by rw [if_pos (by omega)]⟩
    · right
      refine ⟨?_, Or.inr ⟨rfl, rfl, by rw [if_neg (by omega)]⟩⟩
      by_cases q1 : v < lo
      · rw [if_pos (nI_lt q1 (by omega))]
      · rw [if_neg (nI_nlt (by omega) (by omega)), if_pos (nI_lt (by omega) (by omega))]
  · exact Or.inr ⟨rfl, Or.inl ⟨by decide, by decide⟩⟩
  · exact Or.inr ⟨rfl, Or.inl ⟨by decide, by decide⟩⟩
theorem y_3 {kind num at_ token told : Int32} {s e : Nat} (K : Tk c n kind s e num at_ token told) : (kind = 3 ∧ token = 3 ∧ s < e ∧ e ≤ n ∧ at_ = nI e) ∨ (¬ kind = 3 ∧ ¬ token = 3) := by
  rcases K with ⟨rfl, rfl⟩ | ⟨rfl, -, -, -, h⟩ | ⟨rfl, rfl, -⟩ | ⟨rfl, rfl, h⟩ | ⟨rfl, rfl, -⟩
  · exact Or.inr ⟨by decide, by decide⟩
  · refine Or.inr ⟨by decide, ?_⟩
    rcases h with ⟨-, -, rfl, -⟩ | ⟨-, rfl⟩ <;> decide
  · exact Or.inr ⟨by decide, by decide⟩
  · exact Or.inl ⟨rfl, rfl, h⟩
  · exact Or.inr ⟨by decide, by decide⟩
theorem y_stopF (t : TX c xt mt n) {e f : Nat} (he : e ≤ n) (hf : f < 2 ^ 31) (kind start num : Int32) : ∃ a1 a2 a3 a4, fX2_readStop (nI f) (nI n) kind start (nI e) num xt = some (nI f, a1, a2, a3, a4) := by
  unfold fX2_readStop fX2_refuse
  by_cases q : kind = 3
  · obtain ⟨k', s', e', num', -, -, -, h, -⟩ := y_adv t he num 0
    rw [if_neg (fun z => z q), h, b4_some]
    exact ⟨_, _, _, _, rfl⟩
  · rw [if_pos q, if_pos (y_m9 f hf), b1_some]
    exact ⟨_, _, _, _, rfl⟩
/-- the token that ends an item -/
theorem y_stop (t : TX c xt mt n) {kind num at_ token told : Int32} {s e : Nat} (he : e ≤ n) (K : Tk c n kind s e num at_ token told) : (token = 3 ∧ ∃ kind' s' e' num' at' token' told', fX2_readStop (-9) (nI n) kind (nI s) (nI e) num xt = some (-9, kind', nI s', nI e', num') ∧ fX5_reads mt (nI n) at_ told = some (at', nI s', token', told') ∧ s < s' ∧ s' ≤ n ∧ e' ≤ n ∧ (¬ kind' = 0 → s' < n) ∧ Tk c n kind' s' e' num' at' token' told') ∨ (¬ token = 3 ∧ fX2_readStop (-9) (nI n) kind (nI s) (nI e) num xt = some (nI s, kind, nI s, nI e, num)) := by
  unfold fX2_readStop fX2_refuse
  rcases y_3 K with ⟨h1, h2, h3, h4, h5⟩ | ⟨h1, h2⟩
  · obtain ⟨k', s', e', num', at', tk', td', g1, g2, g3, g4, g5, g6, g7⟩ := y_adv t he num told
    left
    refine ⟨h2, k', s', e', num', at', tk', td', ?_, by rw [h5]; exact g2, by omega, g4, g5, g6, g7⟩
    rw [if_neg (fun z => z h1), g1, b4_some]
  · right
    refine ⟨h2, ?_⟩
    rw [if_pos h1, if_neg (fun q => q rfl), b1_some]
theorem y_once (t : TX c xt mt n) {e lo hi j : Nat} (he : e ≤ n) (hl : lo < 100) (hh : hi < 100) (hA : (nI lo).toInt64.toInt = (lo : Int)) (hB : (nI hi).toInt64.toInt = (hi : Int)) (hj : j < 25) (num begin_ token told bit : Int32) (read : Nat → Int32) (h3 : read 3 &&& bit = 0) : (∃ rr fa k st nx nm f a1 a2 a3 a4 b1 b2 b3 b4, f < 2 ^ 31 ∧ fX2_readNumber (-9) (nI n) (nI e) num xt (nI lo) (nI hi) = some (rr, fa, k, st, nx, nm) ∧ fX2_readStop fa (nI n) k st nx nm xt = some (nI f, a1, a2, a3, a4) ∧ fX5_once mt (nI n) (nI e) begin_ token told read bit (nI j) (nI lo) (nI hi) = some (0, b1, nI f, b2, b3, b4)) ∨ (∃ v k st nx nm kind' s' e' num' at' token' told' b1 b2 b3 b4, lo ≤ v ∧ v ≤ hi ∧ fX2_readNumber (-9) (nI n) (nI e) num xt (nI lo) (nI hi) = some (nI v, -9, k, st, nx, nm) ∧ fX2_readStop (-9) (nI n) k st nx nm xt = some (-9, kind', nI s', nI e', num') ∧ fX5_once mt (nI n) (nI e) begin_ token told read bit (nI j) (nI lo) (nI hi) = some (1, b1, b2, b3, b4, upd (upd read 3 (read 3 ||| bit)) j (nI v)) ∧ fX5_reads mt (nI n) b1 b4 = some (at', nI s', token', told') ∧ e ≤ s' ∧ s' ≤ n ∧ e' ≤ n ∧ (¬ kind' = 0 → s' < n) ∧ Tk c n kind' s' e' num' at' token' told') := by
  have hn := t.1
  obtain ⟨k1, s1, e1, num1, at1, tk1, td1, g1, g2, g3, g4, g5, g6, K1⟩ := y_adv t he num told
  unfold fX2_readNumber fX5_once fX5_number
  rw [if_neg (fun q => q h3), g1, b4_some, g2, b4_some]
  rcases y_num K1 hl hh hA hB with ⟨v, v1, v2, rfl, rfl, rfl, rfl, rfl, hse, i1, i2⟩ | ⟨i1, i2⟩
  · obtain ⟨k2, s2, e2, num2, at2, tk2, td2, m1, m2, m3, m4, m5, m6, K2⟩ := y_adv t g5 (nI v) (nI v)
    rw [i1, b1_some, if_pos (by decide), m1, b4_some, if_neg (fun q => q rfl), i2, b1_some, if_neg (by decide), b5_some, if_pos (by decide), nm_is, nm_is, ck_nI hj (by decide), cl_nI (by omega), nm_is, m2, b4_some]
    rcases y_stop t m5 K2 with ⟨h3', kind', s', e', num', at', token', told', r1, r2, r3, r4, r5, r6, r7⟩ | ⟨h3', r1⟩
    · right
      exact ⟨v, _, _, _, _, kind', s', e', num', at', token', told', at2, nI s2, tk2, td2, v1, v2, rfl, r1, by rw [if_neg (fun q => q h3')], r2, by omega, r4, r5, r6, r7⟩
    · left
      exact ⟨_, _, _, _, _, _, s2, _, _, _, _, _, _, _, _, by omega, rfl, r1, by rw [if_pos h3']⟩
  · left
    unfold fX2_refuse
    obtain ⟨a1, a2, a3, a4, st⟩ := y_stopF t g5 (show s1 < 2 ^ 31 by omega) k1 (nI s1) num1
    rw [i1, b1_some, if_neg (by decide), if_neg (fun q => q rfl), b1_some]
    refine ⟨_, _, _, _, _, _, s1, a1, a2, a3, a4, at1, tk1, td1, read, by omega, rfl, st, ?_⟩
    rcases i2 with ⟨i2, -⟩ | ⟨i2, -, i3⟩
    · rw [if_pos i2, b5_some, if_neg (by decide)]
    · rw [if_neg (fun q => q i2), i3, b1_some, if_pos rfl, b5_some, if_neg (by decide)]
/-- the pips of a die -/
theorem y_dieL (t : TX c xt mt n) {dd : Nat} (hd : dd < 3) : ∀ (m i : Nat) (kind num at_ token told : Int32) (s e : Nat) (pips rd : Nat → Int32) (q : Nat → Nat), i ≤ 6 → 7 ≤ i + m → s ≤ n → e ≤ n → (¬ kind = 0 → s < n) → Tk c n kind s e num at_ token told → (∀ l, l < i → (1 ≤ q l ∧ q l ≤ 9) ∧ pips (dd * 6 + l) = nI (q l) ∧ rd (4 + 7 * dd + 1 + l) = nI (q l)) → ∃ (kind' : Int32) (s' e' : Nat) (num' : Int32) (pips' : Nat → Int32) (j : Nat) (at' token' told' r : Int32) (rd' : Nat → Int32) (q' : Nat → Nat), fX2_readDie_L6 (nI n) (nI dd) xt m kind (nI s) (nI e) num pips (nI i) = some (kind', nI s', nI e', num', pips', nI j) ∧ fX5_readDie_L36 mt (nI n) (nI (4 + 7 * dd)) m at_ (nI s) token told rd (nI i) = some (r, at', nI s', token', told', rd') ∧ i ≤ j ∧ j ≤ 6 ∧ s ≤ s' ∧ s' ≤ n ∧ e' ≤ n ∧ Tk c n kind' s' e' num' at' token' told' ∧ (∀ l, l < j → (1 ≤ q' l ∧ q' l ≤ 9) ∧ pips' (dd * 6 + l) = nI (q' l)) ∧ (∀ x, (x < dd * 6 ∨ dd * 6 + 6 ≤ x) → pips' x = pips x) ∧ (i = 0 → (∃ v, 1 ≤ v ∧ v ≤ 9 ∧ kind = 2 ∧ num = nI v) → 1 ≤ j) ∧ ((token' = 3 ∧ r = 1 ∧ rd' (4 + 7 * dd) = nI j ∧ rd' 2 = rd 2 + 1 ∧ (∀ l, l < j → rd' (4 + 7 * dd + 1 + l) = nI (q' l)) ∧ (∀ x, ¬ x = 2 → (x < 4 + 7 * dd ∨ 4 + 7 * dd + 7 ≤ x) → rd' x = rd x)) ∨ (¬ token' = 3 ∧ r = 0))
  | 0, i, kind, num, at_, token, told, s, e, pips, rd, q, h1, h2, h3, h4, h5, K, Q => by omega
  | m + 1, i, kind, num, at_, token, told, s, e, pips, rd, q, h1, h2, h3, h4, h5, K, Q => by
    have hn := t.1
    rw [fX2_readDie_L6, fX5_readDie_L36]
    by_cases tk2 : token = 2
    · by_cases h6 : i = 6
      · subst h6
        rw [if_pos (by decide), if_neg (fun z => z tk2), if_pos (by decide)]
        exact ⟨kind, s, e, num, pips, 6, at_, token, told, 0, rd, q, rfl, rfl, by omega, by omega, by omega, h3, h4, K, fun l hl => ⟨(Q l hl).1, (Q l hl).2.1⟩, fun _ _ => rfl, fun z => by omega, Or.inr ⟨by rw [tk2]; decide, rfl⟩⟩
      · rw [if_neg (show ¬ (6 : Int32) ≤ nI i from nI_ge (b := 6) (by omega) (by decide)), if_neg (fun z => z tk2), if_neg (show ¬ nI i = (6 : Int32) from y_ne (b := 6) (by omega) (by decide) h6)]
        rcases y_num (A := 1) (B := 9) K (lo := 1) (hi := 9) (by decide) (by decide) rfl rfl with ⟨v, v1, v2, rfl, rfl, rfl, rfl, rfl, hse, i1, i2⟩ | ⟨i1, i2⟩
        · rw [show fX2_isNumber 2 (nI v) 1 9 = _ from i1, b1_some, if_neg (by decide), i2, b1_some, if_pos (by decide)]
          obtain ⟨k2, s2, e2, num2, at2, tk2', td2, m1, m2, m3, m4, m5, m6, K2⟩ := y_adv t h4 (nI v) (nI v)
          have hp : nI dd * 6 + nI i = nI (dd * 6 + i) := by rw [show (6 : Int32) = nI 6 from rfl, pk_mul, nI_add]
          simp only [nm_is, nI_1, nI_add]
          rw [hp, ck_nI (show dd * 6 + i < 18 by omega) (by decide), cl_nI (by omega), m1, b4_some, ck_nI (show 4 + 7 * dd + (i + 1) < 25 by omega) (by decide), cl_nI (by omega), m2, b4_some]
          obtain ⟨kind', s', e', num', pips', j, at', token', told', r, rd', q', r1, r2, r3, r4, r5, r6, r7, r8, r9, r10, -, r12⟩ := y_dieL t hd m (i + 1) k2 num2 at2 tk2' td2 s2 e2 (upd pips (dd * 6 + i) (nI v)) (upd rd (4 + 7 * dd + (i + 1)) (nI v)) (fun l => if l = i then v else q l) (by omega) (by omega) m4 m5 m6 K2 (fun l hl => by
            by_cases z : l = i
            · subst z
              rw [if_pos rfl]
              refine ⟨⟨v1, v2⟩, u_at, ?_⟩
              rw [show 4 + 7 * dd + 1 + l = 4 + 7 * dd + (l + 1) by omega]; exact u_at
            · rw [if_neg z]
              obtain ⟨q1, q2, q3⟩ := Q l (by omega)
              exact ⟨q1, (u_no (by omega)).trans q2, (u_no (by omega)).trans q3⟩)
          refine ⟨kind', s', e', num', pips', j, at', token', told', r, rd', q', r1, r2, by omega, r4, by omega, r6, r7, r8, r9, fun x hx => (r10 x hx).trans (u_no (by omega)), fun _ _ => by omega, ?_⟩
          rcases r12 with ⟨z1, z2, z3, z4, z5, z6⟩ | z
          · exact Or.inl ⟨z1, z2, z3, z4.trans (by rw [u_no (by omega)]), z5, fun x hx hx' => (z6 x hx hx').trans (u_no (by omega))⟩
          · exact Or.inr z
        · rcases i2 with ⟨i2, -⟩ | ⟨-, hk, i3⟩
          · exact absurd tk2 i2
          · rw [show fX2_isNumber kind num 1 9 = _ from i1, b1_some, if_pos rfl, i3, b1_some, if_neg (by decide)]
            refine ⟨kind, s, e, num, pips, i, at_, token, told, 0, rd, q, rfl, rfl, by omega, by omega, by omega, h3, h4, K, fun l hl => ⟨(Q l hl).1, (Q l hl).2.1⟩, fun _ _ => rfl, fun z ⟨v, z1, z2, z3, z4⟩ => ?_, Or.inr ⟨by rw [tk2]; decide, rfl⟩⟩
            exfalso
            have i1' : fX2_isNumber kind num 1 9 = some 0 := i1
            rw [z3, z4] at i1'
            unfold fX2_isNumber at i1'
            rw [if_neg (fun q => q rfl), if_neg (show ¬ nI v < (1 : Int32) from nI_nlt (b := 1) z1 (by omega)), if_neg (show ¬ (9 : Int32) < nI v from nI_nlt (a := 9) z2 (by decide))] at i1'
            exact absurd i1' (by decide)
    · have hk2 : ¬ kind = 2 := by
        rcases K with ⟨rfl, -⟩ | ⟨rfl, -⟩ | ⟨-, rfl, -⟩ | ⟨rfl, -⟩ | ⟨rfl, -⟩
        · decide
        · decide
        · exact absurd rfl tk2
        · decide
        · decide
      have i1 : (if 6 ≤ nI i then some (kind, nI s, nI e, num, pips, nI i) else tg_b1 (fX2_isNumber kind num 1 9) fun rr7 => if rr7 = 0 then some (kind, nI s, nI e, num, pips, nI i) else tg_ck ((nI dd * 6) + nI i) 18 <| tg_nm (upd pips (Int32.toNatClampNeg ((nI dd * 6) + nI i)) num) fun gg10 => tg_b4 (fX2_advance (nI n) (nI e) num xt) fun vv12 vv13 vv14 vv15 => tg_nm (nI i + 1) fun vv17 => fX2_readDie_L6 (nI n) (nI dd) xt m vv12 vv13 vv14 vv15 gg10 vv17) = some (kind, nI s, nI e, num, pips, nI i) := by
        unfold fX2_isNumber
        rw [if_pos hk2, b1_some, if_pos rfl, ite_self]
      rw [i1, if_pos tk2, ck_nI (show 4 + 7 * dd < 25 by omega) (by decide), cl_nI (by omega)]
      simp only [nm_is]
      have fin : ∀ r, (if ¬ token = 3 then (0 : Int32) else 1) = r → ((token = 3 ∧ r = 1 ∧ upd (upd rd (4 + 7 * dd) (nI i)) 2 (upd rd (4 + 7 * dd) (nI i) 2 + 1) (4 + 7 * dd) = nI i ∧ upd (upd rd (4 + 7 * dd) (nI i)) 2 (upd rd (4 + 7 * dd) (nI i) 2 + 1) 2 = rd 2 + 1 ∧ (∀ l, l < i → upd (upd rd (4 + 7 * dd) (nI i)) 2 (upd rd (4 + 7 * dd) (nI i) 2 + 1) (4 + 7 * dd + 1 + l) = nI (q l)) ∧ (∀ x, ¬ x = 2 → (x < 4 + 7 * dd ∨ 4 + 7 * dd + 7 ≤ x) → upd (upd rd (4 + 7 * dd) (nI i)) 2 (upd rd (4 + 7 * dd) (nI i) 2 + 1) x = rd x)) ∨ (¬ token = 3 ∧ r = 0)) := by
        intro r hr
        by_cases z : token = 3
        · rw [if_neg (fun w => w z)] at hr
          refine Or.inl ⟨z, hr.symm, (u_no (by omega)).trans u_at, ?_, fun l hl => ?_, fun x hx hx' => ?_⟩
          · rw [u_at, u_no (by omega)]
          · rw [u_no (by omega), u_no (by omega)]; exact (Q l hl).2.2
          · rw [u_no hx, u_no (by omega)]
        · rw [if_pos z] at hr
          exact Or.inr ⟨z, hr.symm⟩
      refine ⟨kind, s, e, num, pips, i, at_, token, told, (if ¬ token = 3 then 0 else 1), upd (upd rd (4 + 7 * dd) (nI i)) 2 (upd rd (4 + 7 * dd) (nI i) 2 + 1), q, rfl, ?_, by omega, by omega, by omega, h3, h4, K, fun l hl => ⟨(Q l hl).1, (Q l hl).2.1⟩, fun _ _ => rfl, fun _ ⟨v, z1, z2, z3, z4⟩ => absurd z3 hk2, fin _ rfl⟩
      split <;> rfl
end ITM
