/-! copying loops and shifts -/
theorem y_27 (u i : Nat) : 27 * nI u + nI i = nI (27 * u + i) := by rw [show (27 : Int32) = nI 27 from rfl, pk_mul, nI_add]
theorem y_353a (n i : Nat) : nI n + 2 + nI i = nI (n + 2 + i) := by rw [show (2 : Int32) = nI 2 from rfl, nI_add, nI_add]
theorem y_353b (n i : Nat) : nI n + 29 + nI i = nI (n + 29 + i) := by rw [show (29 : Int32) = nI 29 from rfl, nI_add, nI_add]
theorem y_lose : ∀ (m i : Nat) (f : Nat → Int32), 9 ≤ i → i ≤ 108 → 108 + 1 ≤ i + m → ∃ f', fX1_loseOldest_L3 m f (nI i) = some (f', nI 108) ∧ ∀ k, f' k = if i ≤ k + 9 ∧ k + 9 < 108 then f (k + 9) else f k
  | 0, i, f, h0, h1, h2 => by omega
  | m + 1, i, f, h0, h1, h2 => by
    rw [fX1_loseOldest_L3]
    by_cases hz : 108 ≤ i
    · have e : i = 108 := by omega
      subst e
      rw [if_pos (by decide)]
      exact ⟨f, rfl, fun k => by rw [if_neg (by omega)]⟩
    · rw [if_neg (show ¬ (108 : Int32) ≤ nI i from nI_ge (b := 108) (by omega) (by omega))]
      have hs : nI i - 9 = nI (i - 9) := pk_sub (b := 9) h0
      simp only [nm_is, hs, ck_nI (show i < 108 by omega) (show 108 < 2 ^ 31 by decide), ck_nI (show i - 9 < 108 by omega) (show 108 < 2 ^ 31 by decide), cl_nI (show i < 2 ^ 31 by omega), cl_nI (show i - 9 < 2 ^ 31 by omega), nI_1]
      obtain ⟨f', e, g⟩ := y_lose m (i + 1) (upd f (i - 9) (f i)) (by omega) (by omega) (by omega)
      refine ⟨f', e, fun k => ?_⟩
      rw [g k]
      simp only [upd]
      by_cases a : k = i - 9
      · rw [if_neg (by omega), if_pos a, if_pos (by omega), show k + 9 = i by omega]
      · by_cases b : i + 1 ≤ k + 9 ∧ k + 9 < 108
        · rw [if_pos b, if_neg (by omega), if_pos (by omega)]
        · rw [if_neg b, if_neg a, if_neg (by omega)]
theorem y_note : ∀ (m i : Nat) (f : Nat → Int32), 27 ≤ i → i ≤ 324 → 324 + 1 ≤ i + m → ∃ f', fX5_notes_L12 m f (nI i) = some (f', nI 324) ∧ ∀ k, f' k = if i ≤ k + 27 ∧ k + 27 < 324 then f (k + 27) else f k
  | 0, i, f, h0, h1, h2 => by omega
  | m + 1, i, f, h0, h1, h2 => by
    rw [fX5_notes_L12]
    by_cases hz : 324 ≤ i
    · have e : i = 324 := by omega
      subst e
      rw [if_pos (by decide)]
      exact ⟨f, rfl, fun k => by rw [if_neg (by omega)]⟩
    · rw [if_neg (show ¬ (324 : Int32) ≤ nI i from nI_ge (b := 324) (by omega) (by omega))]
      have hs : nI i - 27 = nI (i - 27) := pk_sub (b := 27) h0
      simp only [nm_is, hs, ck_nI (show i < 324 by omega) (show 324 < 2 ^ 31 by decide), ck_nI (show i - 27 < 324 by omega) (show 324 < 2 ^ 31 by decide), cl_nI (show i < 2 ^ 31 by omega), cl_nI (show i - 27 < 2 ^ 31 by omega), nI_1]
      obtain ⟨f', e, g⟩ := y_note m (i + 1) (upd f (i - 27) (f i)) (by omega) (by omega) (by omega)
      refine ⟨f', e, fun k => ?_⟩
      rw [g k]
      simp only [upd]
      by_cases a : k = i - 27
      · rw [if_neg (by omega), if_pos a, if_pos (by omega), show k + 27 = i by omega]
      · by_cases b : i + 1 ≤ k + 27 ∧ k + 27 < 324
        · rw [if_pos b, if_neg (by omega), if_pos (by omega)]
        · rw [if_neg b, if_neg a, if_neg (by omega)]
theorem y_noted {now : Nat → Int32} {u : Nat} (hx : u < 12) : ∀ (m i : Nat) (f : Nat → Int32), i ≤ 27 → 27 + 1 ≤ i + m → ∃ f', fX5_notes_L48 now (nI u) m f (nI i) = some (f', nI 27) ∧ ∀ k, f' k = if 27 * u + i ≤ k ∧ k < 27 * u + 27 then now (0 + (k - (27 * u))) else f k
  | 0, i, f, h1, h2 => by omega
  | m + 1, i, f, h1, h2 => by
    rw [fX5_notes_L48]
    by_cases hz : 27 ≤ i
    · have e : i = 27 := by omega
      subst e
      rw [if_pos (by decide)]
      exact ⟨f, rfl, fun k => by rw [if_neg (by omega)]⟩
    · rw [if_neg (show ¬ (27 : Int32) ≤ nI i from nI_ge (b := 27) (by omega) (by omega))]
      simp only [nm_is, y_27, Nat.zero_add, ck_nI (show i < 27 by omega) (show 27 < 2 ^ 31 by decide), ck_nI (show 27 * u + i < 324 by omega) (show 324 < 2 ^ 31 by decide), cl_nI (show i < 2 ^ 31 by omega), cl_nI (show 27 * u + i < 2 ^ 31 by omega), nI_1]
      obtain ⟨f', e, g⟩ := y_noted (now := now) hx m (i + 1) (upd f (27 * u + i) (now (0 + i))) (by omega) (by omega)
      rw [Nat.zero_add] at e
      refine ⟨f', e, fun k => ?_⟩
      rw [g k]
      simp only [upd]
      by_cases a : k = 27 * u + i
      · rw [if_neg (by omega), if_pos a, if_pos (by omega)]; exact congrArg now (by omega)
      · by_cases b : 27 * u + (i + 1) ≤ k ∧ k < 27 * u + 27
        · exact (if_pos b).trans ((congrArg now (by omega)).trans (if_pos (by omega)).symm)
        · rw [if_neg b, if_neg a, if_neg (by omega)]
theorem y_undo {un : Nat → Int32} {u : Nat} (hx : u < 12) : ∀ (m i : Nat) (f : Nat → Int32), i ≤ 27 → 27 + 1 ≤ i + m → ∃ f', fX5_undo_L22 un (nI u) m f (nI i) = some (f', nI 27) ∧ ∀ k, f' k = if 0 + i ≤ k ∧ k < 0 + 27 then un (27 * u + (k - (0))) else f k
  | 0, i, f, h1, h2 => by omega
  | m + 1, i, f, h1, h2 => by
    rw [fX5_undo_L22]
    by_cases hz : 27 ≤ i
    · have e : i = 27 := by omega
      subst e
      rw [if_pos (by decide)]
      exact ⟨f, rfl, fun k => by rw [if_neg (by omega)]⟩
    · rw [if_neg (show ¬ (27 : Int32) ≤ nI i from nI_ge (b := 27) (by omega) (by omega))]
      simp only [nm_is, y_27, Nat.zero_add, ck_nI (show 27 * u + i < 324 by omega) (show 324 < 2 ^ 31 by decide), ck_nI (show i < 27 by omega) (show 27 < 2 ^ 31 by decide), cl_nI (show 27 * u + i < 2 ^ 31 by omega), cl_nI (show i < 2 ^ 31 by omega), nI_1]
      obtain ⟨f', e, g⟩ := y_undo (un := un) hx m (i + 1) (upd f (0 + i) (un (27 * u + i))) (by omega) (by omega)
      rw [Nat.zero_add] at e
      refine ⟨f', e, fun k => ?_⟩
      rw [g k]
      simp only [upd]
      by_cases a : k = 0 + i
      · rw [if_neg (by omega), if_pos a, if_pos (by omega)]; exact congrArg un (by omega)
      · by_cases b : 0 + (i + 1) ≤ k ∧ k < 0 + 27
        · exact (if_pos b).trans ((congrArg un (by omega)).trans (if_pos (by omega)).symm)
        · rw [if_neg b, if_neg a, if_neg (by omega)]
theorem y_keep {now : Nat → Int32} {u : Nat} (hx : u < 2) : ∀ (m i : Nat) (f : Nat → Int32), i ≤ 27 → 27 + 1 ≤ i + m → ∃ f', fX5_keep_L39 now (nI (353 * u)) m f (nI i) = some (f', nI 27) ∧ ∀ k, f' k = if 353 * u + 2 + i ≤ k ∧ k < 353 * u + 2 + 27 then now (0 + (k - (353 * u + 2))) else f k
  | 0, i, f, h1, h2 => by omega
  | m + 1, i, f, h1, h2 => by
    rw [fX5_keep_L39]
    by_cases hz : 27 ≤ i
    · have e : i = 27 := by omega
      subst e
      rw [if_pos (by decide)]
      exact ⟨f, rfl, fun k => by rw [if_neg (by omega)]⟩
    · rw [if_neg (show ¬ (27 : Int32) ≤ nI i from nI_ge (b := 27) (by omega) (by omega))]
      simp only [nm_is, y_353a, Nat.zero_add, ck_nI (show i < 27 by omega) (show 27 < 2 ^ 31 by decide), ck_nI (show 353 * u + 2 + i < 706 by omega) (show 706 < 2 ^ 31 by decide), cl_nI (show i < 2 ^ 31 by omega), cl_nI (show 353 * u + 2 + i < 2 ^ 31 by omega), nI_1]
      obtain ⟨f', e, g⟩ := y_keep (now := now) hx m (i + 1) (upd f (353 * u + 2 + i) (now (0 + i))) (by omega) (by omega)
      rw [Nat.zero_add] at e
      refine ⟨f', e, fun k => ?_⟩
      rw [g k]
      simp only [upd]
      by_cases a : k = 353 * u + 2 + i
      · rw [if_neg (by omega), if_pos a, if_pos (by omega)]; exact congrArg now (by omega)
      · by_cases b : 353 * u + 2 + (i + 1) ≤ k ∧ k < 353 * u + 2 + 27
        · exact (if_pos b).trans ((congrArg now (by omega)).trans (if_pos (by omega)).symm)
        · rw [if_neg b, if_neg a, if_neg (by omega)]
theorem y_keeps {un : Nat → Int32} {u : Nat} (hx : u < 2) : ∀ (m i : Nat) (f : Nat → Int32), i ≤ 324 → 324 + 1 ≤ i + m → ∃ f', fX5_keep_L69 un (nI (353 * u)) m f (nI i) = some (f', nI 324) ∧ ∀ k, f' k = if 353 * u + 29 + i ≤ k ∧ k < 353 * u + 29 + 324 then un (0 + (k - (353 * u + 29))) else f k
  | 0, i, f, h1, h2 => by omega
  | m + 1, i, f, h1, h2 => by
    rw [fX5_keep_L69]
    by_cases hz : 324 ≤ i
    · have e : i = 324 := by omega
      subst e
      rw [if_pos (by decide)]
      exact ⟨f, rfl, fun k => by rw [if_neg (by omega)]⟩
    · rw [if_neg (show ¬ (324 : Int32) ≤ nI i from nI_ge (b := 324) (by omega) (by omega))]
      simp only [nm_is, y_353b, Nat.zero_add, ck_nI (show i < 324 by omega) (show 324 < 2 ^ 31 by decide), ck_nI (show 353 * u + 29 + i < 706 by omega) (show 706 < 2 ^ 31 by decide), cl_nI (show i < 2 ^ 31 by omega), cl_nI (show 353 * u + 29 + i < 2 ^ 31 by omega), nI_1]
      obtain ⟨f', e, g⟩ := y_keeps (un := un) hx m (i + 1) (upd f (353 * u + 29 + i) (un (0 + i))) (by omega) (by omega)
      rw [Nat.zero_add] at e
      refine ⟨f', e, fun k => ?_⟩
      rw [g k]
      simp only [upd]
      by_cases a : k = 353 * u + 29 + i
      · rw [if_neg (by omega), if_pos a, if_pos (by omega)]; exact congrArg un (by omega)
      · by_cases b : 353 * u + 29 + (i + 1) ≤ k ∧ k < 353 * u + 29 + 324
        · exact (if_pos b).trans ((congrArg un (by omega)).trans (if_pos (by omega)).symm)
        · rw [if_neg b, if_neg a, if_neg (by omega)]
theorem y_back {mk : Nat → Int32} {u : Nat} (hx : u < 2) : ∀ (m i : Nat) (f : Nat → Int32), i ≤ 27 → 27 + 1 ≤ i + m → ∃ f', fX5_back_L44 mk (nI (353 * u)) m f (nI i) = some (f', nI 27) ∧ ∀ k, f' k = if 0 + i ≤ k ∧ k < 0 + 27 then mk (353 * u + 2 + (k - (0))) else f k
  | 0, i, f, h1, h2 => by omega
  | m + 1, i, f, h1, h2 => by
    rw [fX5_back_L44]
    by_cases hz : 27 ≤ i
    · have e : i = 27 := by omega
      subst e
      rw [if_pos (by decide)]
      exact ⟨f, rfl, fun k => by rw [if_neg (by omega)]⟩
    · rw [if_neg (show ¬ (27 : Int32) ≤ nI i from nI_ge (b := 27) (by omega) (by omega))]
      simp only [nm_is, y_353a, Nat.zero_add, ck_nI (show 353 * u + 2 + i < 706 by omega) (show 706 < 2 ^ 31 by decide), ck_nI (show i < 27 by omega) (show 27 < 2 ^ 31 by decide), cl_nI (show 353 * u + 2 + i < 2 ^ 31 by omega), cl_nI (show i < 2 ^ 31 by omega), nI_1]
      obtain ⟨f', e, g⟩ := y_back (mk := mk) hx m (i + 1) (upd f (0 + i) (mk (353 * u + 2 + i))) (by omega) (by omega)
      rw [Nat.zero_add] at e
      refine ⟨f', e, fun k => ?_⟩
      rw [g k]
      simp only [upd]
      by_cases a : k = 0 + i
      · rw [if_neg (by omega), if_pos a, if_pos (by omega)]; exact congrArg mk (by omega)
      · by_cases b : 0 + (i + 1) ≤ k ∧ k < 0 + 27
        · exact (if_pos b).trans ((congrArg mk (by omega)).trans (if_pos (by omega)).symm)
        · rw [if_neg b, if_neg a, if_neg (by omega)]
theorem y_backs {mk : Nat → Int32} {u : Nat} (hx : u < 2) : ∀ (m i : Nat) (f : Nat → Int32), i ≤ 324 → 324 + 1 ≤ i + m → ∃ f', fX5_back_L74 mk (nI (353 * u)) m f (nI i) = some (f', nI 324) ∧ ∀ k, f' k = if 0 + i ≤ k ∧ k < 0 + 324 then mk (353 * u + 29 + (k - (0))) else f k
  | 0, i, f, h1, h2 => by omega
  | m + 1, i, f, h1, h2 => by
    rw [fX5_back_L74]
    by_cases hz : 324 ≤ i
    · have e : i = 324 := by omega
      subst e
      rw [if_pos (by decide)]
      exact ⟨f, rfl, fun k => by rw [if_neg (by omega)]⟩
    · rw [if_neg (show ¬ (324 : Int32) ≤ nI i from nI_ge (b := 324) (by omega) (by omega))]
      simp only [nm_is, y_353b, Nat.zero_add, ck_nI (show 353 * u + 29 + i < 706 by omega) (show 706 < 2 ^ 31 by decide), ck_nI (show i < 324 by omega) (show 324 < 2 ^ 31 by decide), cl_nI (show 353 * u + 29 + i < 2 ^ 31 by omega), cl_nI (show i < 2 ^ 31 by omega), nI_1]
      obtain ⟨f', e, g⟩ := y_backs (mk := mk) hx m (i + 1) (upd f (0 + i) (mk (353 * u + 29 + i))) (by omega) (by omega)
      rw [Nat.zero_add] at e
      refine ⟨f', e, fun k => ?_⟩
      rw [g k]
      simp only [upd]
      by_cases a : k = 0 + i
      · rw [if_neg (by omega), if_pos a, if_pos (by omega)]; exact congrArg mk (by omega)
      · by_cases b : 0 + (i + 1) ≤ k ∧ k < 0 + 324
        · exact (if_pos b).trans ((congrArg mk (by omega)).trans (if_pos (by omega)).symm)
        · rw [if_neg b, if_neg a, if_neg (by omega)]
theorem r1_cong {nb g : Nat} {at_ now at' now' : Nat → Int32} (hnb : nb ≤ 18) (R : tr_1 nb g at_ now) (ha : ∀ i, i < 9 → at' i = at_ i) (hn : ∀ i, i < 27 → now' i = now i) : tr_1 nb g at' now' := by
  refine ⟨fun q hq i hi => ?_, fun i h1 h2 => ?_, fun q hq => ?_, fun q hq => ?_, ?_, ?_, ?_⟩
  · rw [ha q (by omega), R.1 q hq i hi]
    by_cases hb : 1 ≤ i ∧ i ≤ nb
    · rw [hn (8 + i) (by omega)]
    · rw [decide_eq_false (fun z => hb ⟨z.1, z.2.1⟩), decide_eq_false (fun z => hb ⟨z.1, z.2.1⟩)]
  · rw [hn (8 + i) (by omega)]; exact R.2.1 i h1 h2
  · rw [ha (2 + q) (by omega), hn (3 + q) (by omega)]; exact R.2.2.1 q hq
  · rw [ha (4 + q) (by omega), hn (5 + q) (by omega)]; exact R.2.2.2.1 q hq
  · rw [ha 6 (by omega), hn 1 (by omega)]; exact R.2.2.2.2.1
  · rw [ha 8 (by omega), hn 2 (by omega)]; exact R.2.2.2.2.2.1
  · obtain ⟨p, hp, e, c⟩ := R.2.2.2.2.2.2
    refine ⟨p, hp, by rw [ha 7 (by omega), e], ?_⟩
    rw [ha 0 (by omega), ha 1 (by omega), ha 8 (by omega), hn 7 (by omega), hn 0 (by omega)]
    rcases c with c | ⟨q, hq, c⟩
    · exact Or.inl c
    · refine Or.inr ⟨q, hq, ?_⟩
      rw [ha q (by omega), ha (1 - q) (by omega)]
      exact c
theorem y_cp : ∀ u, u < 12 → ¬ ((0 : Int32) < 0 ∨ nI u * 9 < 0 ∨ (9 : Int32) < 0 ∨ 9 < (0 : Int32).toNatClampNeg + (9 : Int32).toNatClampNeg ∨ 108 < (nI u * 9).toNatClampNeg + (9 : Int32).toNatClampNeg) := by decide +kernel
theorem y_cp2 : ∀ u, u < 12 → ¬ (nI u * 9 < 0 ∨ (0 : Int32) < 0 ∨ (9 : Int32) < 0 ∨ 108 < (nI u * 9).toNatClampNeg + (9 : Int32).toNatClampNeg ∨ 9 < (0 : Int32).toNatClampNeg + (9 : Int32).toNatClampNeg) := by decide +kernel
theorem y_cl9 : ∀ u, u < 12 → (nI u * 9).toNatClampNeg = 9 * u := by decide +kernel
theorem q_note {nb g : Nat} {at_ past now undone : Nat → Int32} {known undos : Int32} (hnb : nb ≤ 18) (U : tr_U nb g at_ past known now undone undos) : ∃ past' known' undone' undos', fX1_remember at_ past known = some (past', known') ∧ fX5_notes now undone undos = some (undone', undos') ∧ ∀ at' now', tr_1 nb g at' now' → tr_U nb g at' past' known' now' undone' undos' := by
  obtain ⟨R, u, hu, e1, e2, hr⟩ := U
  have key : ∃ v past1 un1, v < 12 ∧ (if known < 12 then some (past, known) else tg_b2 (fX1_loseOldest past) fun gg5 vv6 => some (gg5, vv6)) = some (past1, nI v) ∧ (if ¬ undos = 12 then some (undone, undos) else tg_b2 (fX5_notes_L12 400 undone 27) fun vv11 vv12 => some (vv11, (11 : Int32))) = some (un1, nI v) ∧ ∀ j, j < v → tr_1 nb g (fun i => past1 (9 * j + i)) (fun i => un1 (27 * j + i)) := by
    subst e1 e2
    by_cases h12 : u < 12
    · refine ⟨u, past, undone, h12, ?_, ?_, hr⟩
      · rw [if_pos (show nI u < (12 : Int32) from nI_lt (b := 12) h12 (by decide))]
      · rw [if_pos (show ¬ nI u = (12 : Int32) from fun e => by have := (nI_eq (a := u) (b := 12) (by omega) (by decide)).mp e; omega)]
    · have hu12 : u = 12 := by omega
      subst hu12
      obtain ⟨f1, x1, y1⟩ := y_lose 400 9 past (by omega) (by omega) (by omega)
      obtain ⟨f2, x2, y2⟩ := y_note 400 27 undone (by omega) (by omega) (by omega)
      refine ⟨11, f1, f2, by omega, ?_, ?_, fun j hj => ?_⟩
      · rw [if_neg (by decide)]
        unfold fX1_loseOldest
        rw [show fX1_loseOldest_L3 400 past 9 = _ from x1, b2_some, b2_some]; rfl
      · rw [if_neg (by decide), show fX5_notes_L12 400 undone 27 = _ from x2, b2_some]; rfl
      · refine r1_cong hnb (hr (j + 1) (by omega)) (fun i hi => ?_) (fun i hi => ?_)
        · show f1 _ = past _
          rw [y1, if_pos (by omega), show 9 * j + i + 9 = 9 * (j + 1) + i by omega]
        · show f2 _ = undone _
          rw [y2, if_pos (by omega), show 27 * j + i + 27 = 27 * (j + 1) + i by omega]
  obtain ⟨v, past1, un1, hv, k1, k2, kr⟩ := key
  obtain ⟨f2, x2, y2⟩ := y_noted (now := now) hv 400 0 un1 (by omega) (by omega)
  refine ⟨va_cpy at_ past1 0 (9 * v) 9, nI (v + 1), f2, nI (v + 1), ?_, ?_, fun at' now' R' => ⟨R', v + 1, by omega, rfl, rfl, fun j hj => ?_⟩⟩
  · unfold fX1_remember
    rw [k1, b2_some]
    unfold tg_cp
    rw [if_neg (y_cp v hv), nm_is, y_cl9 v hv, nm_is, nI_1]; rfl
  · unfold fX5_notes
    rw [k2, b2_some, show fX5_notes_L48 now (nI v) 400 un1 0 = _ from x2, b2_some, nm_is, nI_1]
  · by_cases hj' : j = v
    · subst hj'
      refine r1_cong hnb R (fun i hi => ?_) (fun i hi => ?_)
      · show va_cpy _ _ _ _ _ _ = _
        unfold va_cpy
        rw [if_pos (by omega), show 0 + (9 * j + i - 9 * j) = i by omega]
      · show f2 _ = _
        rw [y2, if_pos (by omega), show 0 + (27 * j + i - 27 * j) = i by omega]
    · refine r1_cong hnb (kr j (by omega)) (fun i hi => ?_) (fun i hi => ?_)
      · show va_cpy _ _ _ _ _ _ = _
        unfold va_cpy
        rw [if_neg (by omega)]
      · show f2 _ = _
        rw [y2, if_neg (by omega)]
theorem s_undo : sm_undo tr_R := by
  intro x_text x_typed t_pips t_many t_berths t_goal r_fault r_length r_kind r_start r_next r_number r_dice r_bt r_gt d_pips d_many d_berths d_goal a_shown a_calm a_windy a_turns a_many a_ever c_at c_past c_known i_at i_past i_known j_at j_past j_known x_kept x_cb x_ct x_chalked x_traced m_text m_size m_at m_begin m_token m_told m_read m_harbour m_now m_undone m_undos m_one m_two m_three m_chalks m_cb m_co m_trace m_kept hR
  have hR' := hR
  obtain ⟨nb, g, k, pp, H, A, U, I0, I1, Ck, X, tr⟩ := hR'
  have hnb := H.1.2.1
  have hg9 := H.1.2.2.2
  have hh0 := H.2.2.2.2.1
  have hh1 := H.2.2.2.2.2
  obtain rfl := H.2.2.1
  obtain rfl := H.2.2.2.1
  obtain rfl := A.1
  obtain ⟨R, u, hu, e1, e2, hr⟩ := U
  unfold fX4_undo fX5_undo
  by_cases hz : u = 0
  · subst hz e1 e2
    exact ⟨-2, c_at, nI 0, m_now, nI 0, by rw [if_neg (by decide)], by rw [if_neg (by decide)], hR⟩
  · obtain ⟨v, rfl⟩ : ∃ v, u = v + 1 := ⟨u - 1, by omega⟩
    have hs : nI (v + 1) - 1 = nI v := pk_sub (b := 1) (by omega)
    have hne : ¬ nI (v + 1) = (0 : Int32) := fun e => by have := (nI_eq (a := v + 1) (b := 0) (by omega) (by decide)).mp e; omega
    have hle : ¬ nI (v + 1) ≤ (0 : Int32) := nI_ge (a := 0) (by omega) (by omega)
    obtain ⟨f2, x2, y2⟩ := y_undo (un := m_undone) (show v < 12 by omega) 400 0 m_now (by omega) (by omega)
    subst e1 e2
    refine ⟨nI v, va_cpy c_past c_at (9 * v) 0 9, nI v, f2, nI v, ?_, ?_, nb, g, k, pp, H, A, ⟨?_, v, by omega, rfl, rfl, fun j hj => hr j (by omega)⟩, I0, I1, Ck, X, tr⟩
    · unfold fX1_stepBack
      rw [if_pos hne, if_neg hle, hs, nm_is]
      unfold tg_cp
      rw [if_neg (y_cp2 v (by omega)), nm_is, y_cl9 v (by omega), b2_some]; rfl
    · rw [if_pos hne, hs, nm_is, show fX5_undo_L22 m_undone (nI v) 400 m_now 0 = _ from x2, b2_some]
    · refine r1_cong hnb (hr v (by omega)) (fun i hi => ?_) (fun i hi => ?_)
      · unfold va_cpy
        rw [if_pos (by omega), Nat.sub_zero]
      · rw [y2, if_pos (by omega), Nat.sub_zero]

