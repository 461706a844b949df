set_option maxHeartbeats 4000000 in
set_option maxRecDepth 100000 in
theorem whole_start {p : Program} {e : Env} {s : State} {m : MethodId} {below : List Frame} {meth : Method} {c : Code} (l : Launch) (hfl : l.stackTraces = false) {b L : Nat} {xs : Nat → Int32} (hL : L ≤ 3072) (C0 : lw_At p s m meth c b L xs) : W p l e room_1 s m #[Value.ref b] below meth c s.heap [] 0 0 (lw_Z below #[Value.ref b] s) (entryFrame m ([Value.ref b] : List Value).toArray 7) := by
  obtain ⟨hx, hb, hr, hml, hown, hts, hX, hbl, hlocks, hgv⟩ := id C0
  obtain ⟨sa, hXp⟩ := st_xPre hts hgv
  have hN : NB s := st_NB hts
  obtain ⟨dC, dI, cB, cI, cJ, hK⟩ := st_K hts
  have hb : c.code = cL_law := hb
  have hown : s.vm.findClass RL = some m.cls := hown
  have hts := fun w h => hts w (wsL_law_in w h)
  have hA : ∀ q : Nat, s.heap.size ≤ q → (fun q : Nat => s.heap.size ≤ q) q := fun _ h => h
  have hS : va_S (fun q : Nat => s.heap.size ≤ q) s.heap s.heap [] := va_S.rf
  have hP : va_P (dC, dI) vwCl [] s.heap := fun k q h => by simp at h
  have hD : va_D (fun q : Nat => s.heap.size ≤ q) [] := ⟨fun i j p q h => by simp at h, fun k q h => by simp at h⟩
  have hl := lv_entry ([.ref b]) (n := 7) (Nat.le_of_ble_eq_true rfl)
  rw [lg_entry_eq]
  generalize (lg_sl ([.ref b]) ++ List.replicate (7 - (lg_sl ([.ref b])).length) Slot.unset).toArray = ls at hl ⊢
  have hl : lv_has ls 7 [(0, .ref b)] := hl
  refine va_new (ci := 3) (fs := [.null, .null]) (C := RX3) (T := TX3) (N := 2) hx hb hts (by decide +kernel) tyX3 tyX3_ok hown (hts (.classLink RL 8 RX3) (by decide +kernel)) (hts (.instantiable RX3 2) (by decide +kernel)) (hts (.initialized RX3) (by decide +kernel)) hK hP hD hS hA rfl (by decide) (show 1 ≤ 601024 by decide) (show 2 ≤ 7293034 by decide) dL_law_0 (fun q_1 H hP hD hS => ?_)
  have hP : va_P (dC, dI) vwCl [(q_1, .inr (3, [.null, .null]))] H := hP
  have hD : va_D (fun q : Nat => s.heap.size ≤ q) [(q_1, .inr (3, [.null, .null]))] := hD
  refine lv_dup hx hb dL_law_3 rfl ?_
  have hPc := hP.sub (ws' := [(q_1, .inr (3, [.null, .null]))]) [0] rfl
  have hDc := hD.sub (ws' := [(q_1, .inr (3, [.null, .null]))]) [0] (by decide) rfl
  have hFc := va_free (wc := [(q_1, .inr (3, [.null, .null]))]) hD hS hA [0] rfl
  refine va_callv (va_runI (As := []) (rest := [.ref q_1]) ⟨hx, hb, hml, hown, hts⟩ (c_X3_init l dC dI cB cI cJ H.size q_1 ) (cwI 0 hts gL_law_X3_init rfl rfl rfl (hts (.initialized RX3) (by decide +kernel)) (hts (.methodLink RL 15 yX3_init) (by decide +kernel)) (hts (.instanceMethod yX3_init) (by decide +kernel)) rfl (by decide +kernel) ⟨Nat.le_of_ble_eq_true rfl, Nat.le_of_ble_eq_true rfl⟩) ⟨wBlind, wGo hK hPc hDc hN⟩ rfl rfl hl.1 rfl (lv_room (Nat.le_of_ble_eq_true rfl)) dL_law_4 ⟨show 3 ≤ 601024 by decide, show 3004 ≤ 7293034 by decide⟩) hS (fun q _ h => hFc q h) hFc (fun u t H1 locs ht hvm w_4 hB hz1 hk1 hS => ?_)
  obtain ⟨h0_5, b0_6⟩ := u
  obtain ⟨hP1, hD1⟩ := hB
  rw [ht] at hP1
  try dsimp only at w_4
  obtain ⟨hP, hD⟩ := va_join (wr := []) (w1 := [(q_1, .inr (3, [.ref h0_5, .null])), (h0_5, .inr (2, [.ref b0_6, .int (nI 0)])), (b0_6, .inl (cB, 3000, .inl (fun _ => 0)))]) hP hD [0] [] rfl rfl (by decide) (by decide) hk1 hFc hP1 hD1
  clear hPc hDc hFc hP1 hD1 hz1 hk1 hvm
  generalize H1 = H at hP hS ⊢
  have hP : va_P (dC, dI) vwCl [(q_1, .inr (3, [.ref h0_5, .null])), (h0_5, .inr (2, [.ref b0_6, .int (nI 0)])), (b0_6, .inl (cB, 3000, .inl (fun _ => 0)))] H := hP
  have hD : va_D (fun q : Nat => s.heap.size ≤ q) [(q_1, .inr (3, [.ref h0_5, .null])), (h0_5, .inr (2, [.ref b0_6, .int (nI 0)])), (b0_6, .inl (cB, 3000, .inl (fun _ => 0)))] := hD
  refine lv_astore_n (lv' := [(1, .ref q_1), (0, .ref b)]) hx hb dL_law_7 rfl hl (by decide) rfl (fun ls hl => ?_)
  refine va_new (ci := 4) (fs := [.int (nI 0), .null, .int (nI 0), .int (nI 0), .null, .int (nI 0), .null, .int (nI 0), .int (nI 0), .int (nI 0), .null, .int (nI 0), .int (nI 0), .null, .null, .int (nI 0), .int (nI 0), .int (nI 0), .int (nI 0), .int (nI 0), .null]) (C := RX4) (T := TX4) (N := 21) hx hb hts (by decide +kernel) tyX4 tyX4_ok hown (hts (.classLink RL 16 RX4) (by decide +kernel)) (hts (.instantiable RX4 21) (by decide +kernel)) (hts (.initialized RX4) (by decide +kernel)) hK hP hD hS hA rfl (by decide) (show 4 ≤ 601024 by decide) (show 3025 ≤ 7293034 by decide) dL_law_8 (fun q_7 H hP hD hS => ?_)
  have hP : va_P (dC, dI) vwCl [(q_1, .inr (3, [.ref h0_5, .null])), (h0_5, .inr (2, [.ref b0_6, .int (nI 0)])), (b0_6, .inl (cB, 3000, .inl (fun _ => 0))), (q_7, .inr (4, [.int (nI 0), .null, .int (nI 0), .int (nI 0), .null, .int (nI 0), .null, .int (nI 0), .int (nI 0), .int (nI 0), .null, .int (nI 0), .int (nI 0), .null, .null, .int (nI 0), .int (nI 0), .int (nI 0), .int (nI 0), .int (nI 0), .null]))] H := hP
  have hD : va_D (fun q : Nat => s.heap.size ≤ q) [(q_1, .inr (3, [.ref h0_5, .null])), (h0_5, .inr (2, [.ref b0_6, .int (nI 0)])), (b0_6, .inl (cB, 3000, .inl (fun _ => 0))), (q_7, .inr (4, [.int (nI 0), .null, .int (nI 0), .int (nI 0), .null, .int (nI 0), .null, .int (nI 0), .int (nI 0), .int (nI 0), .null, .int (nI 0), .int (nI 0), .null, .null, .int (nI 0), .int (nI 0), .int (nI 0), .int (nI 0), .int (nI 0), .null]))] := hD
  refine lv_dup hx hb dL_law_11 rfl ?_
  have hPc := hP.sub (ws' := [(q_7, .inr (4, [.int (nI 0), .null, .int (nI 0), .int (nI 0), .null, .int (nI 0), .null, .int (nI 0), .int (nI 0), .int (nI 0), .null, .int (nI 0), .int (nI 0), .null, .null, .int (nI 0), .int (nI 0), .int (nI 0), .int (nI 0), .int (nI 0), .null]))]) [3] rfl
  have hDc := hD.sub (ws' := [(q_7, .inr (4, [.int (nI 0), .null, .int (nI 0), .int (nI 0), .null, .int (nI 0), .null, .int (nI 0), .int (nI 0), .int (nI 0), .null, .int (nI 0), .int (nI 0), .null, .null, .int (nI 0), .int (nI 0), .int (nI 0), .int (nI 0), .int (nI 0), .null]))]) [3] (by decide) rfl
  have hFc := va_free (wc := [(q_7, .inr (4, [.int (nI 0), .null, .int (nI 0), .int (nI 0), .null, .int (nI 0), .null, .int (nI 0), .int (nI 0), .int (nI 0), .null, .int (nI 0), .int (nI 0), .null, .null, .int (nI 0), .int (nI 0), .int (nI 0), .int (nI 0), .int (nI 0), .null]))]) hD hS hA [3] rfl
  refine va_callv (va_runI (As := []) (rest := [.ref q_7]) ⟨hx, hb, hml, hown, hts⟩ (c_X4_init l dC dI cB cI cJ H.size q_7 ) (cwI 0 hts gL_law_X4_init rfl rfl rfl (hts (.initialized RX4) (by decide +kernel)) (hts (.methodLink RL 18 yX4_init) (by decide +kernel)) (hts (.instanceMethod yX4_init) (by decide +kernel)) rfl (by decide +kernel) ⟨Nat.le_of_ble_eq_true rfl, Nat.le_of_ble_eq_true rfl⟩) ⟨wBlind, wGo hK hPc hDc hN⟩ rfl rfl hl.1 rfl (lv_room (Nat.le_of_ble_eq_true rfl)) dL_law_12 ⟨show 11 ≤ 601024 by decide, show 34818 ≤ 7293034 by decide⟩) hS (fun q _ h => hFc q h) hFc (fun u t H1 locs ht hvm w_10 hB hz1 hk1 hS => ?_)
  obtain ⟨dF_11, dH_12, dL_13, dM_14, dP_15, dS_16, dK_17⟩ := u
  obtain ⟨hP1, hD1⟩ := hB
  rw [ht] at hP1
  try dsimp only at w_10
  obtain ⟨hP, hD⟩ := va_join (wr := [(q_1, .inr (3, [.ref h0_5, .null])), (h0_5, .inr (2, [.ref b0_6, .int (nI 0)])), (b0_6, .inl (cB, 3000, .inl (fun _ => 0)))]) (w1 := [(q_7, .inr (4, [.int (nI 0), .ref dF_11, .int (nI 0), .int (nI 0), .ref dH_12, .int (nI 0), .ref dL_13, .int (nI 0), .int (nI 0), .int (nI 0), .ref dM_14, .int (nI 0), .int (nI 0), .ref dP_15, .ref dS_16, .int (nI 0), .int (nI 0), .int (nI 0), .int (nI 0), .int (nI 0), .ref dK_17])), (dF_11, .inl (cI, 3000, .inl (fun _ => 0))), (dH_12, .inl (cJ, 9, .inr (.inl (fun _ => 0)))), (dL_13, .inl (cI, 4096, .inl (fun _ => 0))), (dM_14, .inl (cI, 8192, .inl (fun _ => 0))), (dP_15, .inl (cI, 16, .inl (fun _ => 0))), (dS_16, .inl (cI, 16, .inl (fun _ => 0))), (dK_17, .inl (cI, 16464, .inl (fun _ => 0)))]) hP hD [3] [0, 1, 2] rfl rfl (by decide) (by decide) hk1 hFc hP1 hD1
  clear hPc hDc hFc hP1 hD1 hz1 hk1 hvm
  generalize H1 = H at hP hS ⊢
  have hP : va_P (dC, dI) vwCl [(q_1, .inr (3, [.ref h0_5, .null])), (h0_5, .inr (2, [.ref b0_6, .int (nI 0)])), (b0_6, .inl (cB, 3000, .inl (fun _ => 0))), (q_7, .inr (4, [.int (nI 0), .ref dF_11, .int (nI 0), .int (nI 0), .ref dH_12, .int (nI 0), .ref dL_13, .int (nI 0), .int (nI 0), .int (nI 0), .ref dM_14, .int (nI 0), .int (nI 0), .ref dP_15, .ref dS_16, .int (nI 0), .int (nI 0), .int (nI 0), .int (nI 0), .int (nI 0), .ref dK_17])), (dF_11, .inl (cI, 3000, .inl (fun _ => 0))), (dH_12, .inl (cJ, 9, .inr (.inl (fun _ => 0)))), (dL_13, .inl (cI, 4096, .inl (fun _ => 0))), (dM_14, .inl (cI, 8192, .inl (fun _ => 0))), (dP_15, .inl (cI, 16, .inl (fun _ => 0))), (dS_16, .inl (cI, 16, .inl (fun _ => 0))), (dK_17, .inl (cI, 16464, .inl (fun _ => 0)))] H := hP
  have hD : va_D (fun q : Nat => s.heap.size ≤ q) [(q_1, .inr (3, [.ref h0_5, .null])), (h0_5, .inr (2, [.ref b0_6, .int (nI 0)])), (b0_6, .inl (cB, 3000, .inl (fun _ => 0))), (q_7, .inr (4, [.int (nI 0), .ref dF_11, .int (nI 0), .int (nI 0), .ref dH_12, .int (nI 0), .ref dL_13, .int (nI 0), .int (nI 0), .int (nI 0), .ref dM_14, .int (nI 0), .int (nI 0), .ref dP_15, .ref dS_16, .int (nI 0), .int (nI 0), .int (nI 0), .int (nI 0), .int (nI 0), .ref dK_17])), (dF_11, .inl (cI, 3000, .inl (fun _ => 0))), (dH_12, .inl (cJ, 9, .inr (.inl (fun _ => 0)))), (dL_13, .inl (cI, 4096, .inl (fun _ => 0))), (dM_14, .inl (cI, 8192, .inl (fun _ => 0))), (dP_15, .inl (cI, 16, .inl (fun _ => 0))), (dS_16, .inl (cI, 16, .inl (fun _ => 0))), (dK_17, .inl (cI, 16464, .inl (fun _ => 0)))] := hD
  refine lv_astore_n (lv' := [(2, .ref q_7), (1, .ref q_1), (0, .ref b)]) hx hb dL_law_15 rfl hl (by decide) rfl (fun ls hl => ?_)
  refine lv_iconst (v := nI 1) hx hb dL_law_16 (by decide) ?_
  refine va_newa (a0 := (1, .inr (.inl (fun _ => 0)))) (ty := .long) (atype := .long) (n := nI 1) (N' := 1) hx hb (hts (.arrayClass .long) (by decide +kernel)) rfl hK hP hD hS hA (wx_a0l 1) (nI_pos (by decide)) (nI_clamp (by decide)) (by decide) (show 12 ≤ 601024 by decide) (show 34819 ≤ 7293034 by decide) dL_law_17 (fun q_18 cA H hK hP hD hS => ?_)
  obtain rfl := wx_uni hK (i := 2) (j := 3) rfl rfl rfl
  have hK := hK.sub (tys' := tyL cB cI cJ) [0, 1, 2] rfl
  have hP : va_P (dC, dI) vwCl [(q_1, .inr (3, [.ref h0_5, .null])), (h0_5, .inr (2, [.ref b0_6, .int (nI 0)])), (b0_6, .inl (cB, 3000, .inl (fun _ => 0))), (q_7, .inr (4, [.int (nI 0), .ref dF_11, .int (nI 0), .int (nI 0), .ref dH_12, .int (nI 0), .ref dL_13, .int (nI 0), .int (nI 0), .int (nI 0), .ref dM_14, .int (nI 0), .int (nI 0), .ref dP_15, .ref dS_16, .int (nI 0), .int (nI 0), .int (nI 0), .int (nI 0), .int (nI 0), .ref dK_17])), (dF_11, .inl (cI, 3000, .inl (fun _ => 0))), (dH_12, .inl (cJ, 9, .inr (.inl (fun _ => 0)))), (dL_13, .inl (cI, 4096, .inl (fun _ => 0))), (dM_14, .inl (cI, 8192, .inl (fun _ => 0))), (dP_15, .inl (cI, 16, .inl (fun _ => 0))), (dS_16, .inl (cI, 16, .inl (fun _ => 0))), (dK_17, .inl (cI, 16464, .inl (fun _ => 0))), (q_18, .inl (cJ, 1, .inr (.inl (fun _ => 0))))] H := hP
  have hD : va_D (fun q : Nat => s.heap.size ≤ q) [(q_1, .inr (3, [.ref h0_5, .null])), (h0_5, .inr (2, [.ref b0_6, .int (nI 0)])), (b0_6, .inl (cB, 3000, .inl (fun _ => 0))), (q_7, .inr (4, [.int (nI 0), .ref dF_11, .int (nI 0), .int (nI 0), .ref dH_12, .int (nI 0), .ref dL_13, .int (nI 0), .int (nI 0), .int (nI 0), .ref dM_14, .int (nI 0), .int (nI 0), .ref dP_15, .ref dS_16, .int (nI 0), .int (nI 0), .int (nI 0), .int (nI 0), .int (nI 0), .ref dK_17])), (dF_11, .inl (cI, 3000, .inl (fun _ => 0))), (dH_12, .inl (cJ, 9, .inr (.inl (fun _ => 0)))), (dL_13, .inl (cI, 4096, .inl (fun _ => 0))), (dM_14, .inl (cI, 8192, .inl (fun _ => 0))), (dP_15, .inl (cI, 16, .inl (fun _ => 0))), (dS_16, .inl (cI, 16, .inl (fun _ => 0))), (dK_17, .inl (cI, 16464, .inl (fun _ => 0))), (q_18, .inl (cJ, 1, .inr (.inl (fun _ => 0))))] := hD
  refine lv_astore_n (lv' := [(3, .ref q_18), (2, .ref q_7), (1, .ref q_1), (0, .ref b)]) hx hb dL_law_19 rfl hl (by decide) rfl (fun ls hl => ?_)
  refine lv_iconst (v := nI 0) hx hb dL_law_20 (by decide) ?_
  refine lv_istore (lv' := [(4, .int (nI 0)), (3, .ref q_18), (2, .ref q_7), (1, .ref q_1), (0, .ref b)]) hx hb dL_law_21 hl (by decide) rfl (fun ls hl => ?_)
  refine W.widen (k := 100 + 0) (n := 40000 + 6 * 0) (by decide) (by decide) ?_
  exact (law_loop hL C0 hK hN hfl sa hXp 513 0 (by decide) (by decide)).1 _ _ _ ⟨q_1, h0_5, b0_6, (fun _ => 0), 0, (fun _ => 0), q_7, 0, dF_11, dH_12, 0, dL_13, 0, 0, 0, dM_14, 0, 0, dP_15, dS_16, 0, (nI 0), 0, 0, 0, dK_17, (fun _ => 0), (fun _ => 0), (fun _ => 0), (fun _ => 0), (fun _ => 0), (fun _ => 0), (fun _ => 0), q_18, (fun _ => 0), ⟨Nat.zero_le _, fun _ => show (0 : Nat) < 256 by decide, fun _ _ => rfl, fun j h => absurd h (Nat.not_lt_zero j)⟩, fun j h => absurd h (Nat.not_lt_zero j), hP.sub [0, 1, 2, 3, 4, 5, 6, 7, 8, 9, 10, 11] rfl, hD.sub [0, 1, 2, 3, 4, 5, 6, 7, 8, 9, 10, 11] (by decide) rfl, hS, lv_sub hl [4, 3, 2, 1, 0] rfl⟩
