/-! filling loops; the harbour; the start -/
theorem z_6 (d i : Nat) : nI d * 6 + nI i = nI (d * 6 + i) := by rw [show (6 : Int32) = nI 6 from rfl, pk_mul, nI_add]
theorem z_7 (d : Nat) : 4 + 7 * nI d = nI (4 + 7 * d) := by rw [show (7 : Int32) = nI 7 from rfl, pk_mul, show (4 : Int32) = nI 4 from rfl, nI_add]
theorem z_8 (i : Nat) (h : i < 2 ^ 31) : (if nI i < 8 then some (0 : Int32) else some (-9)) = some (if i < 8 then 0 else -9) := by
  by_cases q : i < 8
  · rw [if_pos (show nI i < (8 : Int32) from nI_lt (b := 8) q (by decide)), if_pos q]
  · rw [if_neg (show ¬ nI i < (8 : Int32) from nI_nlt (b := 8) (by omega) h), if_neg q]
theorem z_l9 {d : Nat} (hx : d < 3) : ∀ (m i : Nat) (f : Nat → Int32), 0 ≤ i → i ≤ 6 → 6 + 1 ≤ i + m → ∃ f', fX3_setFirst_L9 (nI d) m f (nI i) = some (f', nI 6) ∧ ∀ k, f' k = if d * 6 + i ≤ k ∧ k < d * 6 + 6 then nI ((k - (d * 6)) + 1) else f k
  | 0, i, f, h0, h1, h2 => by omega
  | m + 1, i, f, h0, h1, h2 => by
    rw [fX3_setFirst_L9]
    by_cases hz : 6 ≤ i
    · have e : i = 6 := by omega
      subst e
      rw [if_pos (by decide)]
      exact ⟨f, rfl, fun k => by rw [if_neg (by omega)]⟩
    · rw [if_neg (show ¬ (6 : Int32) ≤ nI i from nI_ge (b := 6) (by omega) (by omega))]
      
      simp only [nm_is, z_6, ck_nI (show d * 6 + i < 18 by omega) (show 18 < 2 ^ 31 by decide), cl_nI (show d * 6 + i < 2 ^ 31 by omega), nI_1]
      obtain ⟨f', e, g⟩ := z_l9 hx m (i + 1) (upd f (d * 6 + i) (nI (i + 1))) (by omega) (by omega) (by omega)
      skip
      refine ⟨f', e, fun k => ?_⟩
      rw [g k]
      simp only [upd]
      by_cases a : k = d * 6 + i
      · exact (if_neg (by omega)).trans ((if_pos a).trans ((congrArg (fun z => nI (z + 1)) (show i = k - (d * 6) by omega)).trans (if_pos (by omega)).symm))
      · by_cases b : d * 6 + (i + 1) ≤ k ∧ k < d * 6 + 6
        · exact (if_pos b).trans (if_pos (by omega)).symm
        · rw [if_neg b, if_neg a, if_neg (by omega)]
theorem z_51 {d : Nat} (hx : d < 3) : ∀ (m i : Nat) (f : Nat → Int32), 0 ≤ i → i ≤ 7 → 7 + 1 ≤ i + m → ∃ f', fX5_plain_L51 (nI d) m f (nI i) = some (f', nI 7) ∧ ∀ k, f' k = if 4 + 7 * d + i ≤ k ∧ k < 4 + 7 * d + 7 then nI (k - (4 + 7 * d)) else f k
  | 0, i, f, h0, h1, h2 => by omega
  | m + 1, i, f, h0, h1, h2 => by
    rw [fX5_plain_L51]
    by_cases hz : 7 ≤ i
    · have e : i = 7 := by omega
      subst e
      rw [if_pos (by decide)]
      exact ⟨f, rfl, fun k => by rw [if_neg (by omega)]⟩
    · rw [if_neg (show ¬ (7 : Int32) ≤ nI i from nI_ge (b := 7) (by omega) (by omega))]
      
      simp only [nm_is, z_7, nI_add, ck_nI (show 4 + 7 * d + i < 25 by omega) (show 25 < 2 ^ 31 by decide), cl_nI (show 4 + 7 * d + i < 2 ^ 31 by omega), nI_1]
      obtain ⟨f', e, g⟩ := z_51 hx m (i + 1) (upd f (4 + 7 * d + i) (nI i)) (by omega) (by omega) (by omega)
      skip
      refine ⟨f', e, fun k => ?_⟩
      rw [g k]
      simp only [upd]
      by_cases a : k = 4 + 7 * d + i
      · exact (if_neg (by omega)).trans ((if_pos a).trans ((congrArg (fun z => nI z) (show i = k - (4 + 7 * d) by omega)).trans (if_pos (by omega)).symm))
      · by_cases b : 4 + 7 * d + (i + 1) ≤ k ∧ k < 4 + 7 * d + 7
        · exact (if_pos b).trans (if_pos (by omega)).symm
        · rw [if_neg b, if_neg a, if_neg (by omega)]
theorem z_all (rd : Nat → Int32) : ∀ (m i : Nat) (f : Nat → Int32), 0 ≤ i → i ≤ 25 → 25 + 1 ≤ i + m → ∃ f', fX5_takesAll_L2 rd m f (nI i) = some (f', nI 25) ∧ ∀ k, f' k = if 0 + i ≤ k ∧ k < 0 + 25 then rd (k - (0)) else f k
  | 0, i, f, h0, h1, h2 => by omega
  | m + 1, i, f, h0, h1, h2 => by
    rw [fX5_takesAll_L2]
    by_cases hz : 25 ≤ i
    · have e : i = 25 := by omega
      subst e
      rw [if_pos (by decide)]
      exact ⟨f, rfl, fun k => by rw [if_neg (by omega)]⟩
    · rw [if_neg (show ¬ (25 : Int32) ≤ nI i from nI_ge (b := 25) (by omega) (by omega))]
      
      simp only [nm_is, ck_nI (show i < 25 by omega) (show 25 < 2 ^ 31 by decide), cl_nI (show i < 2 ^ 31 by omega), nI_1]
      obtain ⟨f', e, g⟩ := z_all rd m (i + 1) (upd f (0 + i) (rd i)) (by omega) (by omega) (by omega)
      rw [Nat.zero_add] at e
      refine ⟨f', e, fun k => ?_⟩
      rw [g k]
      simp only [upd]
      by_cases a : k = 0 + i
      · exact (if_neg (by omega)).trans ((if_pos a).trans ((congrArg (fun z => rd z) (show i = k - (0) by omega)).trans (if_pos (by omega)).symm))
      · by_cases b : 0 + (i + 1) ≤ k ∧ k < 0 + 25
        · exact (if_pos b).trans (if_pos (by omega)).symm
        · rw [if_neg b, if_neg a, if_neg (by omega)]
theorem z_28  : ∀ (m i : Nat) (f : Nat → Int32), 0 ≤ i → i ≤ 27 → 27 + 1 ≤ i + m → ∃ f', fX5_takesAll_L28  m f (nI i) = some (f', nI 27) ∧ ∀ k, f' k = if 0 + i ≤ k ∧ k < 0 + 27 then (if (k - (0)) < 8 then (0 : Int32) else -9) else f k
  | 0, i, f, h0, h1, h2 => by omega
  | m + 1, i, f, h0, h1, h2 => by
    rw [fX5_takesAll_L28]
    by_cases hz : 27 ≤ i
    · have e : i = 27 := by omega
      subst e
      rw [if_pos (by decide)]
      exact ⟨f, rfl, fun k => by rw [if_neg (by omega)]⟩
    · rw [if_neg (show ¬ (27 : Int32) ≤ nI i from nI_ge (b := 27) (by omega) (by omega))]
      rw [z_8 i (by omega)]
      simp only [nm_is, b1_some, ck_nI (show i < 27 by omega) (show 27 < 2 ^ 31 by decide), cl_nI (show i < 2 ^ 31 by omega), nI_1]
      obtain ⟨f', e, g⟩ := z_28 m (i + 1) (upd f (0 + i) ((if i < 8 then (0 : Int32) else -9))) (by omega) (by omega) (by omega)
      rw [Nat.zero_add] at e
      refine ⟨f', e, fun k => ?_⟩
      rw [g k]
      simp only [upd]
      by_cases a : k = 0 + i
      · exact (if_neg (by omega)).trans ((if_pos a).trans ((congrArg (fun z => (if z < 8 then (0 : Int32) else -9)) (show i = k - (0) by omega)).trans (if_pos (by omega)).symm))
      · by_cases b : 0 + (i + 1) ≤ k ∧ k < 0 + 27
        · exact (if_pos b).trans (if_pos (by omega)).symm
        · rw [if_neg b, if_neg a, if_neg (by omega)]
theorem z_beg  : ∀ (m i : Nat) (f : Nat → Int32), 0 ≤ i → i ≤ 9 → 9 + 1 ≤ i + m → ∃ f', fX1_begin_L2  m f (nI i) = some (f', nI 9) ∧ ∀ k, f' k = if 0 + i ≤ k ∧ k < 0 + 9 then (fun _ : Nat => (0 : Int32)) (k - (0)) else f k
  | 0, i, f, h0, h1, h2 => by omega
  | m + 1, i, f, h0, h1, h2 => by
    rw [fX1_begin_L2]
    by_cases hz : 9 ≤ i
    · have e : i = 9 := by omega
      subst e
      rw [if_pos (by decide)]
      exact ⟨f, rfl, fun k => by rw [if_neg (by omega)]⟩
    · rw [if_neg (show ¬ (9 : Int32) ≤ nI i from nI_ge (b := 9) (by omega) (by omega))]
      
      simp only [nm_is, ck_nI (show i < 9 by omega) (show 9 < 2 ^ 31 by decide), cl_nI (show i < 2 ^ 31 by omega), nI_1]
      obtain ⟨f', e, g⟩ := z_beg m (i + 1) (upd f (0 + i) ((fun _ : Nat => (0 : Int32)) i)) (by omega) (by omega) (by omega)
      rw [Nat.zero_add] at e
      refine ⟨f', e, fun k => ?_⟩
      rw [g k]
      simp only [upd]
      by_cases a : k = 0 + i
      · exact (if_neg (by omega)).trans ((if_pos a).trans ((congrArg (fun z => (fun _ : Nat => (0 : Int32)) z) (show i = k - (0) by omega)).trans (if_pos (by omega)).symm))
      · by_cases b : 0 + (i + 1) ≤ k ∧ k < 0 + 9
        · exact (if_pos b).trans (if_pos (by omega)).symm
        · rw [if_neg b, if_neg a, if_neg (by omega)]
theorem z_sf {d : Nat} (hd : d < 3) (m : Nat) (pips many : Nat → Int32) : ∃ p', fX3_setFirst_L2 (m + 1) pips many (nI d) = fX3_setFirst_L2 m p' (upd many d 6) (nI (d + 1)) ∧ ∀ k, p' k = if d * 6 ≤ k ∧ k < d * 6 + 6 then nI (k - d * 6 + 1) else pips k := by
  obtain ⟨p', x, y⟩ := z_l9 hd 400 0 pips (by omega) (by omega) (by omega)
  refine ⟨p', ?_, y⟩
  rw [fX3_setFirst_L2, if_neg (show ¬ (3 : Int32) ≤ nI d from nI_ge (b := 3) hd (by decide)), show fX3_setFirst_L9 (nI d) 400 pips 0 = _ from x, b2_some, ck_nI hd (by decide), cl_nI (by omega), nm_is, nm_is, nI_1]
theorem z_pl {d : Nat} (hd : d < 3) (m : Nat) (rd : Nat → Int32) : ∃ p', fX5_plain_L31 (m + 1) rd (nI d) = fX5_plain_L31 m p' (nI (d + 1)) ∧ ∀ k, p' k = if 4 + 7 * d + 1 ≤ k ∧ k < 4 + 7 * d + 7 then nI (k - (4 + 7 * d)) else upd rd (4 + 7 * d) 6 k := by
  obtain ⟨p', x, y⟩ := z_51 hd 400 1 (upd rd (4 + 7 * d) 6) (by omega) (by omega) (by omega)
  refine ⟨p', ?_, y⟩
  rw [fX5_plain_L31, if_neg (show ¬ (3 : Int32) ≤ nI d from nI_ge (b := 3) hd (by decide)), z_7, ck_nI (show 4 + 7 * d < 25 by omega) (by decide), cl_nI (by omega), nm_is, show fX5_plain_L51 (nI d) 400 (upd rd (4 + 7 * d) 6) 1 = _ from x, b2_some, nm_is, nI_1]
/-- the first harbour -/
theorem z_first (pips many rd : Nat → Int32) : ∃ p m r, fX3_setFirst pips many = some (p, m, nI 12, nI 4) ∧ fX5_plain rd = some r ∧ tr_H 12 4 (fun _ => 6) (fun _ i => i + 1) p m (nI 12) (nI 4) r ∧ r 2 = nI 0 ∧ r 3 = nI 0 := by
  obtain ⟨p1, a1, b1⟩ := z_sf (d := 0) (by decide) 399 pips many
  obtain ⟨p2, a2, b2⟩ := z_sf (d := 1) (by decide) 398 p1 (upd many 0 6)
  obtain ⟨p3, a3, b3⟩ := z_sf (d := 2) (by decide) 397 p2 (upd (upd many 0 6) 1 6)
  have a4 : fX3_setFirst_L2 397 p3 (upd (upd (upd many 0 6) 1 6) 2 6) (nI 3) = some (p3, upd (upd (upd many 0 6) 1 6) 2 6, nI 3) := by
    rw [show (397 : Nat) = 396 + 1 from rfl, fX3_setFirst_L2, if_pos (by decide)]
  obtain ⟨r1, c1, d1⟩ := z_pl (d := 0) (by decide) 399 (upd (upd (upd (upd rd 0 12) 1 4) 2 0) 3 0)
  obtain ⟨r2, c2, d2⟩ := z_pl (d := 1) (by decide) 398 r1
  obtain ⟨r3, c3, d3⟩ := z_pl (d := 2) (by decide) 397 r2
  have c4 : fX5_plain_L31 397 r3 (nI 3) = some (r3, nI 3) := by
    rw [show (397 : Nat) = 396 + 1 from rfl, fX5_plain_L31, if_pos (by decide)]
  have lo : ∀ x, x < 4 → r3 x = upd (upd (upd (upd rd 0 12) 1 4) 2 0) 3 0 x := fun x hx => by
    rw [d3, if_neg (by omega), u_no (by omega), d2, if_neg (by omega), u_no (by omega), d1, if_neg (by omega), u_no (by omega)]
  refine ⟨p3, upd (upd (upd many 0 6) 1 6) 2 6, r3, ?_, ?_, ⟨by omega, fun d hd => ?_, rfl, rfl, ?_, ?_⟩, ?_, ?_⟩
  · unfold fX3_setFirst
    rw [show fX3_setFirst_L2 400 pips many 0 = _ from a1.trans (a2.trans (a3.trans a4)), b3_some]; rfl
  · unfold fX5_plain
    rw [nm_is, nm_is, nm_is, nm_is, show fX5_plain_L31 400 (upd (upd (upd (upd rd 0 12) 1 4) 2 0) 3 0) 0 = _ from c1.trans (c2.trans (c3.trans c4)), b2_some]
  · refine ⟨show 1 ≤ 6 ∧ 6 ≤ 6 by omega, ?_, ?_, fun i hi => ⟨show 1 ≤ i + 1 ∧ i + 1 ≤ 9 from (by have : i < 6 := hi; omega), ?_, ?_⟩⟩
    · rcases (show d = 0 ∨ d = 1 ∨ d = 2 by omega) with rfl | rfl | rfl <;> rfl
    · rcases (show d = 0 ∨ d = 1 ∨ d = 2 by omega) with rfl | rfl | rfl
      · rw [d3, if_neg (by omega), u_no (by omega), d2, if_neg (by omega), u_no (by omega), d1, if_neg (by omega)]; rfl
      · rw [d3, if_neg (by omega), u_no (by omega), d2, if_neg (by omega)]; rfl
      · rw [d3, if_neg (by omega)]; rfl
    · have hi' : i < 6 := hi
      rcases (show d = 0 ∨ d = 1 ∨ d = 2 by omega) with rfl | rfl | rfl
      · rw [b3, if_neg (by omega), b2, if_neg (by omega), b1, if_pos (by omega)]; show nI _ = nI (i + 1); exact congrArg nI (by omega)
      · rw [b3, if_neg (by omega), b2, if_pos (by omega)]; show nI _ = nI (i + 1); exact congrArg nI (by omega)
      · rw [b3, if_pos (by omega)]; show nI _ = nI (i + 1); exact congrArg nI (by omega)
    · have hi' : i < 6 := hi
      rcases (show d = 0 ∨ d = 1 ∨ d = 2 by omega) with rfl | rfl | rfl
      · rw [d3, if_neg (by omega), u_no (by omega), d2, if_neg (by omega), u_no (by omega), d1, if_pos (by omega)]; show nI _ = nI (i + 1); exact congrArg nI (by omega)
      · rw [d3, if_neg (by omega), u_no (by omega), d2, if_pos (by omega)]; show nI _ = nI (i + 1); exact congrArg nI (by omega)
      · rw [d3, if_pos (by omega)]; show nI _ = nI (i + 1); exact congrArg nI (by omega)
  · rw [lo 0 (by omega)]; rfl
  · rw [lo 1 (by omega)]; rfl
  · rw [lo 2 (by omega)]; rfl
  · rw [lo 3 (by omega)]; rfl
/-- the start of a race -/
theorem z_begin (c_at : Nat → Int32) : ∃ a, fX1_begin c_at = some (a, 0) ∧ (∀ i, i < 8 → a i = 0) ∧ a 8 = -9 := by
  obtain ⟨f, x, y⟩ := z_beg 400 0 c_at (by omega) (by omega) (by omega)
  refine ⟨upd f 8 (-9), ?_, fun i hi => ?_, u_at⟩
  · unfold fX1_begin
    rw [show fX1_begin_L2 400 c_at 0 = _ from x, b2_some, nm_is]
  · rw [u_no (by omega), y, if_pos (by omega)]
theorem z_takes {nb g : Nat} {k : Nat → Nat} {pp : Nat → Nat → Nat} {pips many rd : Nat → Int32} {berths goal : Int32} (H : tr_H nb g k pp pips many berths goal rd) (h now kept : Nat → Int32) : ∃ h' now' kept', fX5_takesAll rd h now kept = some (h', now', 0, 0, kept') ∧ tr_H nb g k pp pips many berths goal h' ∧ (now' 0 = 0 ∧ now' 1 = 0 ∧ now' 2 = -9 ∧ (∀ i, 3 ≤ i → i < 7 → now' i = 0) ∧ now' 7 = -9 ∧ ∀ i, 8 ≤ i → i < 27 → now' i = -9) ∧ kept' 0 = 0 ∧ kept' 353 = 0 := by
  obtain ⟨f, x, y⟩ := z_all rd 400 0 h (by omega) (by omega) (by omega)
  obtain ⟨f2, x2, y2⟩ := z_28 400 0 now (by omega) (by omega) (by omega)
  have e : ∀ i, i < 25 → f i = rd i := fun i hi => by rw [y, if_pos (by omega)]; rfl
  refine ⟨f, upd (upd f2 2 (-9)) 7 (-9), upd (upd kept 0 0) 353 0, ?_, ⟨H.1, fun d hd => ?_, H.2.2.1, H.2.2.2.1, (e 0 (by omega)).trans H.2.2.2.2.1, (e 1 (by omega)).trans H.2.2.2.2.2⟩, ⟨?_, ?_, ?_, fun i h1 h2 => ?_, u_at, fun i h1 h2 => ?_⟩, ?_, u_at⟩
  · unfold fX5_takesAll
    rw [show fX5_takesAll_L2 rd 400 h 0 = _ from x, b2_some, show fX5_takesAll_L28 400 now 0 = _ from x2, b2_some, nm_is, nm_is, nm_is, nm_is]
  · obtain ⟨z1, z2, z3, z4⟩ := H.2.1 d hd
    exact ⟨z1, z2, (e _ (by omega)).trans z3, fun i hi => ⟨(z4 i hi).1, (z4 i hi).2.1, (e _ (by omega)).trans (z4 i hi).2.2⟩⟩
  · rw [u_no (by omega), u_no (by omega), y2, if_pos (by omega), if_pos (by omega)]
  · rw [u_no (by omega), u_no (by omega), y2, if_pos (by omega), if_pos (by omega)]
  · rw [u_no (by omega), u_at]
  · rw [u_no (by omega), u_no (by omega), y2, if_pos (by omega), if_pos (by omega)]
  · rw [u_no (by omega), u_no (by omega), y2, if_pos (by omega), if_neg (by omega)]
  · rw [u_no (by omega), u_at]
theorem z_row {nb g : Nat} (hnb : nb ≤ 18) (hg : 1 ≤ g) {a now : Nat → Int32} (h1 : ∀ i, i < 8 → a i = 0) (h8 : a 8 = -9) (hn : now 0 = 0 ∧ now 1 = 0 ∧ now 2 = -9 ∧ (∀ i, 3 ≤ i → i < 7 → now i = 0) ∧ now 7 = -9 ∧ ∀ i, 8 ≤ i → i < 27 → now i = -9) : tr_1 nb g a now := by
  obtain ⟨n0, n1, n2, n3, n7, n8⟩ := hn
  have p0 : PC 0 = 0 := by decide
  refine ⟨fun q hq i hi => ?_, fun i i1 i2 => Or.inl (n8 _ (by omega) (by omega)), fun q hq => ⟨0, by omega, h1 _ (by omega), n3 _ (by omega) (by omega)⟩, fun q hq => ⟨0, by omega, h1 _ (by omega), n3 _ (by omega) (by omega)⟩, ⟨0, by omega, h1 _ (by omega), n1⟩, Or.inl ⟨h8, n2⟩, 0, by omega, h1 _ (by omega), Or.inl ⟨?_, ?_, n7, n0⟩⟩
  · rw [h1 q (by omega), b_0, eq_comm, decide_eq_false]
    rintro ⟨z1, z2, z3⟩
    rw [n8 _ (by omega) (by omega)] at z3
    exact nI_m9 (n := q) (by omega) z3.symm
  · rw [h1 0 (by omega), p0]; omega
  · rw [h1 1 (by omega), p0]; omega

