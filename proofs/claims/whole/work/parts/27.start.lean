def sm_init (Rl : (Nat → Int32) → Int32 → (Nat → Int32) → (Nat → Int32) → Int32 → Int32 → (Nat → Int32) → (Nat → Int32) → (Nat → Int32) → (Nat → Int32) → Int32 → Int32 → (Nat → Int32) → (Nat → Int32) → Int32 → (Nat → Int32) → (Nat → Int32) → Int32 → (Nat → Int32) → (Nat → Int32) → Int32 → (Nat → Int32) → (Nat → Int32) → (Nat → Int32) → Int32 → Int64 → (Nat → Int32) → Int32 → (Nat → Int32) → (Nat → Int32) → (Nat → Int32) → Int32 → Int32 → (Nat → Int32) → (Nat → Int32) → Int64 → (Nat → Int32) → Prop) : Prop := ∃ (w_t_pips : Nat → Int32) (w_t_many : Nat → Int32) (w_t_berths : Int32) (w_t_goal : Int32) (w_d_pips : Nat → Int32) (w_d_many : Nat → Int32) (w_d_berths : Int32) (w_d_goal : Int32) (w_a_shown : Nat → Int32) (w_a_calm : Nat → Int32) (w_a_windy : Nat → Int32) (w_a_turns : Nat → Int32) (w_a_many : Int32) (w_a_ever : Int32) (w_c_at : Nat → Int32) (w_c_known : Int32) (w_i_at : Nat → Int32) (w_i_known : Int32) (w_j_at : Nat → Int32) (w_j_known : Int32) (w_m_read : Nat → Int32) (w_m_harbour : Nat → Int32) (w_m_now : Nat → Int32) (w_m_undos : Int32) (w_m_chalks : Int32) (w_m_kept : Nat → Int32), fX4_init = some (w_t_pips, w_t_many, w_t_berths, w_t_goal, w_d_pips, w_d_many, w_d_berths, w_d_goal, w_a_shown, w_a_calm, w_a_windy, w_a_turns, w_a_many, w_a_ever, w_c_at, w_c_known, w_i_at, w_i_known, w_j_at, w_j_known) ∧ fX5_init = some (w_m_read, w_m_harbour, w_m_now, w_m_undos, w_m_chalks, w_m_kept) ∧ Rl (fun _ => 0) 0 w_t_pips w_t_many w_t_berths w_t_goal w_a_shown w_a_calm w_a_windy w_a_turns w_a_many w_a_ever w_c_at (fun _ => 0) w_c_known w_i_at (fun _ => 0) w_i_known w_j_at (fun _ => 0) w_j_known (fun _ => 0) (fun _ => 0) (fun _ => 0) 0 0 (fun _ => 0) 0 w_m_harbour w_m_now (fun _ => 0) w_m_undos w_m_chalks (fun _ => 0) (fun _ => 0) 0 w_m_kept
set_option maxHeartbeats 4000000 in
set_option maxRecDepth 20000 in
theorem lw_start {p : Program} {e : Env} {s : State} {m : MethodId} {below : List Frame} {meth : Method} {c : Code} (l : Launch) {b L : Nat} {xs : Nat → Int32} (Rl : (Nat → Int32) → Int32 → (Nat → Int32) → (Nat → Int32) → Int32 → Int32 → (Nat → Int32) → (Nat → Int32) → (Nat → Int32) → (Nat → Int32) → Int32 → Int32 → (Nat → Int32) → (Nat → Int32) → Int32 → (Nat → Int32) → (Nat → Int32) → Int32 → (Nat → Int32) → (Nat → Int32) → Int32 → (Nat → Int32) → (Nat → Int32) → (Nat → Int32) → Int32 → Int64 → (Nat → Int32) → Int32 → (Nat → Int32) → (Nat → Int32) → (Nat → Int32) → Int32 → Int32 → (Nat → Int32) → (Nat → Int32) → Int64 → (Nat → Int32) → Prop) (Sm : sm_all Rl) (Si : sm_init Rl) (hL : L ≤ 2048) (C0 : lw_At p s m meth c b L xs) : W p l e room_1 s m #[Value.ref b] below meth c s.heap [] 0 0 (lw_Z below #[Value.ref b] s) (entryFrame m ([Value.ref b] : List Value).toArray 4) := by
  obtain ⟨hx, hb, hr, hml, hown, hts, hX, hbl, hlocks, hgv⟩ := C0
  have hT : tg_T #[Value.ref b] s := fun w hw => hts w (List.mem_filter.mp hw).1
  obtain ⟨c0, iS0, hKn0⟩ := u_known (C := RX0) (T := TX0) (N := 6) (n := 6) hT cinX0 (hT _ wm_158)
  obtain ⟨c1, iS1, hKn1⟩ := u_known (C := RX1) (T := TX1) (N := 4) (n := 4) hT cinX1 (hT _ wm_186)
  obtain ⟨c2, iS2, hKn2⟩ := u_known (C := RX2) (T := TX2) (N := 11) (n := 11) hT cinX2 (hT _ wm_114)
  obtain ⟨c3, iS3, hKn3⟩ := u_known (C := RX3) (T := TX3) (N := 4) (n := 4) hT cinX3 (hT _ wm_80)
  obtain ⟨c4, iS4, hKn4⟩ := u_known (C := RX4) (T := TX4) (N := 12) (n := 12) hT cinX4 (hT _ wm_72)
  obtain ⟨c5, iS5, hKn5⟩ := u_known (C := RX5) (T := TX5) (N := 19) (n := 19) hT cinX5 (hT _ wm_692)
  obtain ⟨a_int, k_int, m_int, f_int, g_int, h_int⟩ := Cond.arrayClass_spec (hT _ wm_112)
  obtain ⟨a_boolean, k_boolean, m_boolean, f_boolean, g_boolean, h_boolean⟩ := Cond.arrayClass_spec (hT _ wm_184)
  obtain ⟨a_char, k_char, m_char, f_char, g_char, h_char⟩ := Cond.arrayClass_spec (hT _ wm_111)
  obtain ⟨m_q, a_q, k_q, f_q, -, g_q, h_q, j_q⟩ := Cond.arrayOver_spec (hT _ wm_209)
  obtain ⟨D, hK⟩ : ∃ D : tg_D, va_K D.1 tg_cl (tg_TY D) s := by
    refine ⟨((fun k => if k = 0 then c0 else if k = 1 then c1 else if k = 2 then c2 else if k = 3 then c3 else if k = 4 then c4 else c5, fun k => if k = 0 then iS0 else if k = 1 then iS1 else if k = 2 then iS2 else if k = 3 then iS3 else if k = 4 then iS4 else iS5), fun k => if k = 0 then a_int else if k = 1 then a_boolean else if k = 2 then a_char else a_q), ?_, ?_⟩
    · intro k q hq
      match k, hq with
      | 0, hq => cases hq; exact hKn0
      | 1, hq => cases hq; exact hKn1
      | 2, hq => cases hq; exact hKn2
      | 3, hq => cases hq; exact hKn3
      | 4, hq => cases hq; exact hKn4
      | 5, hq => cases hq; exact hKn5
      | k + 6, hq => simp [tg_cl] at hq
    · intro k q hq
      match k, hq with
      | 0, hq => cases hq; exact ⟨fun N z => ⟨(fun k h => by cases h), k_int, g_int, m_int, h_int⟩, f_int⟩
      | 1, hq => cases hq; exact ⟨fun N z => ⟨(fun k h => by cases h), k_boolean, g_boolean, m_boolean, h_boolean⟩, f_boolean⟩
      | 2, hq => cases hq; exact ⟨fun N z => ⟨(fun k h => by cases h), k_char, g_char, m_char, h_char⟩, f_char⟩
      | 3, hq => cases hq; exact ⟨fun N z => ⟨(fun k h => by cases h), k_q, g_q, m_q, h_q⟩, k_q, m_q, g_q, h_q, f_q, j_q⟩
      | k + 4, hq => simp [tg_TY] at hq
  obtain ⟨w_t_pips, w_t_many, w_t_berths, w_t_goal, w_d_pips, w_d_many, w_d_berths, w_d_goal, w_a_shown, w_a_calm, w_a_windy, w_a_turns, w_a_many, w_a_ever, w_c_at, w_c_known, w_i_at, w_i_known, w_j_at, w_j_known, w_m_read, w_m_harbour, w_m_now, w_m_undos, w_m_chalks, w_m_kept, ee1, ee2, hR⟩ := Si
  generalize hXX : ((p, l, e, room_1, s, m, #[Value.ref b], below, meth, c, lw_Z below #[Value.ref b] s, (fun q : Nat => s.heap.size ≤ q), va_S (fun q : Nat => s.heap.size ≤ q) s.heap) : tg_X) = X
  have C : tg_C X D 4 code R_law 10 346 37 2700 := by subst hXX; exact ⟨hx, hb, hml, hown, hT, hK, Nat.le_refl _, Nat.le_refl _, Nat.le_refl _, Nat.le_refl _⟩
  have V : tg_V X := by subst hXX; rfl
  have hA : ∀ q, (tg_s X).heap.size ≤ q → tg_A X q := by subst hXX; exact fun q h => h
  have hX : va_X b L xs (tg_s X) (tg_s X).heap := by subst hXX; exact hX
  have hbA : ¬ tg_A X b := by subst hXX; exact Nat.not_le.mpr hbl
  have hl0 : tg_l X = l := by subst hXX; rfl
  have hE : ∀ (ws : va_W) (ls : List (Nat × Value)) (pc : Nat), decode code pc = .ok (.ireturn, 1) → tg_G X D 4 37 2700 ws ls pc [.int 1] := by
    subst hXX
    intro ws lv pc hdg H locs ls hZ hP hD hl
    exact va_forget (fun q hq => hZ.2.2 q hq) (lw_ret hx hb hr hlocks hdg)
  have hbl2 : b < (tg_s X).heap.size := by subst hXX; exact hbl
  have G0 : tg_G X D 4 0 0 [] [(0, .ref b)] 0 [] := by
    refine tg_new (fs := [.null, .int 0, .null, .null, .null, .null, .null, .null, .null, .null, .int 0, .long 0]) C V hA cfX4 wm_71 wm_72 wm_62 (by decide) ⟨by decide, by decide⟩ dL_law_0 (fun h0 => ?_)
    refine tg_wsE (ws' := [(h0, .inr (4, [.null, .int 0, .null, .null, .null, .null, .null, .null, .null, .null, .int 0, .long 0]))]) rfl ?_
    refine tg_dup C dL_law_3 rfl ?_
    refine tg_cI (np := 0) (As := []) (rest := [.ref h0]) (wc := [(h0, .inr (4, [.null, .int 0, .null, .null, .null, .null, .null, .null, .null, .null, .int 0, .long 0]))]) (wr := []) C V hA hl0 (fun sz => kX4_init l D h0 sz w_t_pips w_t_many w_t_berths w_t_goal w_d_pips w_d_many w_d_berths w_d_goal w_a_shown w_a_calm w_a_windy w_a_turns w_a_many w_a_ever w_c_at w_c_known w_i_at w_i_known w_j_at w_j_known ee1) rfl wm_73 wm_74 wm_62 wm_75 (by decide) (by decide) [0] [] rfl rfl (by decide) (by decide) (by decide) rfl rfl (Nat.le_of_ble_eq_true rfl) dL_law_4 ?_
    rintro w1 ⟨x0, t0, t1, t2, r0, e0, e1, e2, z0, b0, b1, b2, b3, b4, c0, c1, c2, m0, i0, i1, i2, j0, j1, j2, k0, k1, k2, rfl⟩
    refine tg_wsE (ws' := (tw_X D h0 x0 t0 t1 t2 r0 e0 e1 e2 z0 z0 b0 b1 b2 b3 b4 c0 c1 c2 m0 i0 i1 i2 j0 j1 j2 k0 k1 k2 (fun _ => 0) 0 w_t_pips w_t_many w_t_berths w_t_goal 0 0 0 0 0 0 0 0 0 w_d_pips w_d_many w_d_berths w_d_goal w_a_shown w_a_calm w_a_windy w_a_turns w_a_many w_a_ever w_c_at (fun _ => 0) w_c_known w_i_at (fun _ => 0) w_i_known w_j_at (fun _ => 0) w_j_known (fun _ => 0) (fun _ => 0) (fun _ => 0) 0 0)) rfl ?_
    refine tg_astore_n (lv' := [(1, .ref h0), (0, .ref b)]) C dL_law_7 rfl (by decide) rfl ?_
    refine tg_new (fs := [.null, .int 0, .int 0, .int 0, .int 0, .int 0, .null, .null, .null, .null, .int 0, .int 0, .int 0, .int 0, .int 0, .null, .null, .long 0, .null]) C V hA cfX5 wm_691 wm_692 wm_67 (by decide) ⟨by decide, by decide⟩ dL_law_8 (fun o0 => ?_)
    refine tg_dup C dL_law_11 rfl ?_
    refine tg_cI (np := 0) (As := []) (rest := [.ref o0]) (wc := [(o0, .inr (5, [.null, .int 0, .int 0, .int 0, .int 0, .int 0, .null, .null, .null, .null, .int 0, .int 0, .int 0, .int 0, .int 0, .null, .null, .long 0, .null]))]) (wr := (tw_X D h0 x0 t0 t1 t2 r0 e0 e1 e2 z0 z0 b0 b1 b2 b3 b4 c0 c1 c2 m0 i0 i1 i2 j0 j1 j2 k0 k1 k2 (fun _ => 0) 0 w_t_pips w_t_many w_t_berths w_t_goal 0 0 0 0 0 0 0 0 0 w_d_pips w_d_many w_d_berths w_d_goal w_a_shown w_a_calm w_a_windy w_a_turns w_a_many w_a_ever w_c_at (fun _ => 0) w_c_known w_i_at (fun _ => 0) w_i_known w_j_at (fun _ => 0) w_j_known (fun _ => 0) (fun _ => 0) (fun _ => 0) 0 0)) C V hA hl0 (fun sz => kX5_init l D o0 sz w_m_read w_m_harbour w_m_now w_m_undos w_m_chalks w_m_kept ee2) rfl wm_693 wm_694 wm_67 wm_695 (by decide) (by decide) [28] [0, 1, 2, 3, 4, 5, 6, 7, 8, 9, 10, 11, 12, 13, 14, 15, 16, 17, 18, 19, 20, 21, 22, 23, 24, 25, 26, 27] rfl rfl (by decide) (by decide) (by decide) rfl rfl (Nat.le_of_ble_eq_true rfl) dL_law_12 ?_
    rintro w1 ⟨o1, o2, o3, o4, o5, o6, o7, o8, rfl⟩
    refine tg_astore_n (lv' := [(2, .ref o0), (1, .ref h0), (0, .ref b)]) C dL_law_15 rfl (by decide) rfl ?_
    refine tg_iconst (v := 0) C dL_law_16 (by decide) ?_
    refine tg_istore_n (lv' := [(3, .int 0), (2, .ref o0), (1, .ref h0), (0, .ref b)]) C dL_law_17 rfl (by decide) rfl ?_
    refine tg_lsub [3, 2, 1, 0] rfl ?_
    refine tg_widen (k2 := 37) (n2 := 2700) (by decide) (by decide) ?_
    exact lw_loop l D h0 x0 t0 t1 t2 r0 e0 e1 e2 z0 b0 b1 b2 b3 b4 c0 c1 c2 m0 i0 i1 i2 j0 j1 j2 k0 k1 k2 o0 o1 o2 o3 o4 o5 o6 o7 o8 Rl Sm X hl0 C V b L xs hX hbl2 hbA hL hE (L + 1) 0 0 (by decide) (by omega) nI_0.symm z0 (fun _ => 0) 0 w_t_pips w_t_many w_t_berths w_t_goal 0 0 0 0 0 0 0 0 0 w_d_pips w_d_many w_d_berths w_d_goal w_a_shown w_a_calm w_a_windy w_a_turns w_a_many w_a_ever w_c_at (fun _ => 0) w_c_known w_i_at (fun _ => 0) w_i_known w_j_at (fun _ => 0) w_j_known (fun _ => 0) (fun _ => 0) (fun _ => 0) 0 0 (fun _ => 0) 0 0 0 0 0 w_m_read w_m_harbour w_m_now (fun _ => 0) w_m_undos 0 0 0 w_m_chalks (fun _ => 0) (fun _ => 0) 0 w_m_kept hR
  subst hXX
  have hl := lv_entry ([.ref b]) (n := 4) (Nat.le_of_ble_eq_true rfl)
  rw [lg_entry_eq]
  exact G0 s.heap [] _ va_S.rf (fun k q h => by simp at h) ⟨fun i j p q h => by simp at h, fun k q h => by simp at h⟩ hl
