theorem shift_up {P P3 : Nat → Int32} {ix i cn : Nat} (h1 : ix ≤ i) (h2 : i ≤ cn) (h3 : 0 < i) (h : ∀ q, q ≤ cn → P3 q = if i < q then P (q - 1) else P q) : ∀ q, q ≤ cn → upd P3 i (P3 (i - 1)) q = if i - 1 < q then P (q - 1) else P q := by
  intro q hq
  by_cases z : q = i
  · subst z; rw [pk_us, h (q - 1) (by omega), if_neg (by omega), if_pos (by omega)]
  · rw [pk_un z, h q hq]
    by_cases y : i < q
    · rw [if_pos y, if_pos (by omega)]
    · rw [if_neg y, if_neg (by omega)]
theorem shift_in {P P3 : Nat → Int32} {ix i cn : Nat} {x : Int32} (h1 : ix ≤ cn) (h2 : i = ix) (h : ∀ q, q ≤ cn → P3 q = if i < q then P (q - 1) else P q) : ∀ q, q ≤ cn → upd P3 ix x q = if q < ix then P q else if q = ix then x else P (q - 1) := by
  intro q hq
  subst h2
  by_cases z : q = i
  · subst z; rw [pk_us, if_neg (by omega), if_pos rfl]
  · rw [pk_un z, h q hq]
    by_cases y : i < q
    · rw [if_pos y, if_neg (by omega), if_neg z]
    · rw [if_neg y, if_pos (by omega)]
theorem shift_dn {P P3 : Nat → Int32} {ix i : Nat} (h1 : ix ≤ i) (h2 : i + 1 < 16) (h : ∀ q, q < 16 → P3 q = if ix ≤ q ∧ q < i then P (q + 1) else P q) : ∀ q, q < 16 → upd P3 i (P3 (i + 1)) q = if ix ≤ q ∧ q < i + 1 then P (q + 1) else P q := by
  intro q hq
  by_cases z : q = i
  · subst z; rw [pk_us, h (q + 1) h2, if_neg (by omega), if_pos (by omega)]
  · rw [pk_un z, h q hq]
    by_cases y : ix ≤ q ∧ q < i
    · rw [if_pos y, if_pos (by omega)]
    · rw [if_neg y, if_neg (by omega)]
theorem shift_out {P P3 : Nat → Int32} {ix i cn : Nat} (h1 : cn - 1 ≤ i) (h2 : cn ≤ 16) (h : ∀ q, q < 16 → P3 q = if ix ≤ q ∧ q < i then P (q + 1) else P q) : ∀ q, q < cn - 1 → P3 q = if q < ix then P q else P (q + 1) := by
  intro q hq
  rw [h q (by omega)]
  by_cases y : q < ix
  · rw [if_pos y, if_neg (by omega)]
  · rw [if_neg y, if_pos (by omega)]
set_option maxHeartbeats 4000000 in
set_option maxRecDepth 100000 in
theorem c_X1_takeFile (l : Launch) (dC : Nat → ClassId) (dI : Nat → Nat → Nat) (cB cI cJ : ClassId) (sz : Nat) (oS : Nat) (aB : Nat) (aP : Nat) (aL : Nat) (mz : Nat) (cn : Nat) (hs : Nat) (g : Nat → Int32) (P : Nat → Int32) (L : Nat → Int32) (h0 : Nat) (b0 : Nat) (f : Nat → Int32) (len : Nat) (fb : Nat → Nat) (mem : Nat → Nat) (en : Nat) (hM : mOk g mz mem) (hF : fOk f len fb) (hle : len ≤ en) (hen : en ≤ 4096) : Met l yX1_takeFile wsX1_takeFile ({ frames := 1, cells := 0, slots := 0, locals := 22 }) (va_Pc [.ref oS, .ref h0, .int (nI en)] (wPre dC dI cB cI cJ sz [(oS, .inr (1, [.ref aB, .int (nI mz), .ref aP, .ref aL, .int (nI cn), .int (nI hs)])), (aB, .inl (cB, 8192, .inl g)), (aP, .inl (cI, 16, .inl P)), (aL, .inl (cI, 16, .inl L)), (h0, .inr (2, [.ref b0, .int (nI len)])), (b0, .inl (cB, 3000, .inl f))])) (va_Qv (fun (u : (Nat → Int32)) => mOk u en fb) (fun (u : (Nat → Int32)) => wPost dC dI (va_A [(oS, .inr (1, [.ref aB, .int (nI mz), .ref aP, .ref aL, .int (nI cn), .int (nI hs)])), (aB, .inl (cB, 8192, .inl g)), (aP, .inl (cI, 16, .inl P)), (aL, .inl (cI, 16, .inl L)), (h0, .inr (2, [.ref b0, .int (nI len)])), (b0, .inl (cB, 3000, .inl f))] sz) [(oS, .inr (1, [.ref aB, .int (nI en), .ref aP, .ref aL, .int (nI cn), .int (nI hs)])), (aB, .inl (cB, 8192, .inl u)), (aP, .inl (cI, 16, .inl P)), (aL, .inl (cI, 16, .inl L)), (h0, .inr (2, [.ref b0, .int (nI len)])), (b0, .inl (cB, 3000, .inl f))]) (va_A [(oS, .inr (1, [.ref aB, .int (nI mz), .ref aP, .ref aL, .int (nI cn), .int (nI hs)])), (aB, .inl (cB, 8192, .inl g)), (aP, .inl (cI, 16, .inl P)), (aL, .inl (cI, 16, .inl L)), (h0, .inr (2, [.ref b0, .int (nI len)])), (b0, .inl (cB, 3000, .inl f))] sz)) 0 0 (va_A [(oS, .inr (1, [.ref aB, .int (nI mz), .ref aP, .ref aL, .int (nI cn), .int (nI hs)])), (aB, .inl (cB, 8192, .inl g)), (aP, .inl (cI, 16, .inl P)), (aL, .inl (cI, 16, .inl L)), (h0, .inr (2, [.ref b0, .int (nI len)])), (b0, .inl (cB, 3000, .inl f))] sz) := by
  refine Met.ofW (cc := cX1_takeFile) (maxL := 4) (ret := none) (by decide) rfl ?_
  intro p e s m args below meth c s₁ B hml hv
  obtain ⟨rfl, hsz, hP, hK, hD0, hN⟩ := hv
  have hx := B.exec
  have hb := B.bytes
  have hr := B.returns
  have hts := atoms_spec (ws := wsX1_takeFile) B.pre
  have hown : s.vm.findClass RX1 = some m.cls := findClass_of_methodNamed B.named
  have hlocks := B.notSynchronized
  subst hsz
  have hD := hD0.self (sz := s.heap.size)
  generalize hAe : va_A [(oS, .inr (1, [.ref aB, .int (nI mz), .ref aP, .ref aL, .int (nI cn), .int (nI hs)])), (aB, .inl (cB, 8192, .inl g)), (aP, .inl (cI, 16, .inl P)), (aL, .inl (cI, 16, .inl L)), (h0, .inr (2, [.ref b0, .int (nI len)])), (b0, .inl (cB, 3000, .inl f))] s.heap.size = A at hD ⊢
  have hA : ∀ q : Nat, s.heap.size ≤ q → A q := fun q h => by rw [← hAe]; exact Or.inr h
  have hS : va_S A s.heap s.heap [] := va_S.rf
  have hP : va_P (dC, dI) vwCl [(oS, .inr (1, [.ref aB, .int (nI mz), .ref aP, .ref aL, .int (nI cn), .int (nI hs)])), (aB, .inl (cB, 8192, .inl g)), (aP, .inl (cI, 16, .inl P)), (aL, .inl (cI, 16, .inl L)), (h0, .inr (2, [.ref b0, .int (nI len)])), (b0, .inl (cB, 3000, .inl f))] s.heap := hP
  have hl := lv_entry ([.ref oS, .ref h0, .int (nI en)]) (n := 4) (Nat.le_of_ble_eq_true rfl)
  rw [lg_entry_eq]
  generalize (lg_sl ([.ref oS, .ref h0, .int (nI en)]) ++ List.replicate (4 - (lg_sl ([.ref oS, .ref h0, .int (nI en)])).length) Slot.unset).toArray = ls at hl ⊢
  have hl : lv_has ls 4 [(0, .ref oS), (1, .ref h0), (2, .int (nI en))] := hl
  have hM1 := hM.1
  have hM2 := hM.2.1
  have hF1 := hF.1
  have hF2 := hF.2.1
  refine lv_aload_n hx hb dX1_takeFile_0 rfl (lv_at hl 0 rfl) ?_
  refine lv_iconst (v := nI 0) hx hb dX1_takeFile_1 (by decide) ?_
  have hPc := hP.sub (ws' := [(oS, .inr (1, [.ref aB, .int (nI mz), .ref aP, .ref aL, .int (nI cn), .int (nI hs)])), (aB, .inl (cB, 8192, .inl g)), (aP, .inl (cI, 16, .inl P)), (aL, .inl (cI, 16, .inl L))]) [0, 1, 2, 3] rfl
  have hDc := hD.sub (ws' := [(oS, .inr (1, [.ref aB, .int (nI mz), .ref aP, .ref aL, .int (nI cn), .int (nI hs)])), (aB, .inl (cB, 8192, .inl g)), (aP, .inl (cI, 16, .inl P)), (aL, .inl (cI, 16, .inl L))]) [0, 1, 2, 3] (by decide) rfl
  have hFc := va_free (wc := [(oS, .inr (1, [.ref aB, .int (nI mz), .ref aP, .ref aL, .int (nI cn), .int (nI hs)])), (aB, .inl (cB, 8192, .inl g)), (aP, .inl (cI, 16, .inl P)), (aL, .inl (cI, 16, .inl L))]) hD hS hA [0, 1, 2, 3] rfl
  refine va_callv (va_runV (As := [.int (nI 0)]) (rest := []) ⟨hx, hb, hml, hown, hts⟩ (c_X1_setSize l dC dI cB cI cJ s.heap.size oS aB aP aL mz cn hs g P L mem 0 hM (by omega)) (cwV 1 hts gX1_takeFile_X1_setSize rfl rfl rfl (by decide +kernel) ⟨Nat.le_of_ble_eq_true rfl, Nat.le_of_ble_eq_true rfl⟩) ⟨wBlind, va_recv hK hPc (ci := 1) (q0 := 0) rfl rfl, wGo hK hPc hDc hN⟩ rfl rfl hl.1 rfl (lv_room (Nat.le_of_ble_eq_true rfl)) dX1_takeFile_2 ⟨show 0 ≤ 0 by decide, show 0 ≤ 0 by decide⟩) hS (fun q _ h => hFc q h) hFc (fun u t H1 locs ht hvm w_3 hB hz1 hk1 hS => ?_)
  obtain ⟨g2_4, rfl⟩ : ∃ z, z = u := ⟨_, rfl⟩
  obtain ⟨hP1, hD1⟩ := hB
  rw [ht] at hP1
  try dsimp only at w_3
  obtain ⟨hP, hD⟩ := va_join (wr := [(h0, .inr (2, [.ref b0, .int (nI len)])), (b0, .inl (cB, 3000, .inl f))]) (w1 := [(oS, .inr (1, [.ref aB, .int (nI 0), .ref aP, .ref aL, .int (nI cn), .int (nI hs)])), (aB, .inl (cB, 8192, .inl g2_4)), (aP, .inl (cI, 16, .inl P)), (aL, .inl (cI, 16, .inl L))]) hP hD [0, 1, 2, 3] [4, 5] rfl rfl (by decide) (by decide) hk1 hFc hP1 hD1
  clear hPc hDc hFc hP1 hD1 hz1 hk1 hvm
  generalize H1 = H at hP hS ⊢
  have hP : va_P (dC, dI) vwCl [(h0, .inr (2, [.ref b0, .int (nI len)])), (b0, .inl (cB, 3000, .inl f)), (oS, .inr (1, [.ref aB, .int (nI 0), .ref aP, .ref aL, .int (nI cn), .int (nI hs)])), (aB, .inl (cB, 8192, .inl g2_4)), (aP, .inl (cI, 16, .inl P)), (aL, .inl (cI, 16, .inl L))] H := hP
  have hD : va_D A [(h0, .inr (2, [.ref b0, .int (nI len)])), (b0, .inl (cB, 3000, .inl f)), (oS, .inr (1, [.ref aB, .int (nI 0), .ref aP, .ref aL, .int (nI cn), .int (nI hs)])), (aB, .inl (cB, 8192, .inl g2_4)), (aP, .inl (cI, 16, .inl P)), (aL, .inl (cI, 16, .inl L))] := hD
  refine lv_aload_n hx hb dX1_takeFile_5 rfl (lv_at hl 0 rfl) ?_
  refine lv_iload_n hx hb dX1_takeFile_6 rfl (lv_at hl 2 rfl) ?_
  have hPc := hP.sub (ws' := [(oS, .inr (1, [.ref aB, .int (nI 0), .ref aP, .ref aL, .int (nI cn), .int (nI hs)])), (aB, .inl (cB, 8192, .inl g2_4)), (aP, .inl (cI, 16, .inl P)), (aL, .inl (cI, 16, .inl L))]) [2, 3, 4, 5] rfl
  have hDc := hD.sub (ws' := [(oS, .inr (1, [.ref aB, .int (nI 0), .ref aP, .ref aL, .int (nI cn), .int (nI hs)])), (aB, .inl (cB, 8192, .inl g2_4)), (aP, .inl (cI, 16, .inl P)), (aL, .inl (cI, 16, .inl L))]) [2, 3, 4, 5] (by decide) rfl
  have hFc := va_free (wc := [(oS, .inr (1, [.ref aB, .int (nI 0), .ref aP, .ref aL, .int (nI cn), .int (nI hs)])), (aB, .inl (cB, 8192, .inl g2_4)), (aP, .inl (cI, 16, .inl P)), (aL, .inl (cI, 16, .inl L))]) hD hS hA [2, 3, 4, 5] rfl
  refine va_callv (va_runV (As := [.int (nI en)]) (rest := []) ⟨hx, hb, hml, hown, hts⟩ (c_X1_setSize l dC dI cB cI cJ H.size oS aB aP aL 0 cn hs g2_4 P L (cutM mem 0) en (by assumption) (by omega)) (cwV 1 hts gX1_takeFile_X1_setSize rfl rfl rfl (by decide +kernel) ⟨Nat.le_of_ble_eq_true rfl, Nat.le_of_ble_eq_true rfl⟩) ⟨wBlind, va_recv hK hPc (ci := 1) (q0 := 0) rfl rfl, wGo hK hPc hDc hN⟩ rfl rfl hl.1 rfl (lv_room (Nat.le_of_ble_eq_true rfl)) dX1_takeFile_7 ⟨show 0 ≤ 0 by decide, show 0 ≤ 0 by decide⟩) hS (fun q _ h => hFc q h) hFc (fun u t H1 locs ht hvm w_7 hB hz1 hk1 hS => ?_)
  obtain ⟨g2_8, rfl⟩ : ∃ z, z = u := ⟨_, rfl⟩
  obtain ⟨hP1, hD1⟩ := hB
  rw [ht] at hP1
  try dsimp only at w_7
  obtain ⟨hP, hD⟩ := va_join (wr := [(h0, .inr (2, [.ref b0, .int (nI len)])), (b0, .inl (cB, 3000, .inl f))]) (w1 := [(oS, .inr (1, [.ref aB, .int (nI en), .ref aP, .ref aL, .int (nI cn), .int (nI hs)])), (aB, .inl (cB, 8192, .inl g2_8)), (aP, .inl (cI, 16, .inl P)), (aL, .inl (cI, 16, .inl L))]) hP hD [2, 3, 4, 5] [0, 1] rfl rfl (by decide) (by decide) hk1 hFc hP1 hD1
  clear hPc hDc hFc hP1 hD1 hz1 hk1 hvm
  generalize H1 = H at hP hS ⊢
  have hP : va_P (dC, dI) vwCl [(h0, .inr (2, [.ref b0, .int (nI len)])), (b0, .inl (cB, 3000, .inl f)), (oS, .inr (1, [.ref aB, .int (nI en), .ref aP, .ref aL, .int (nI cn), .int (nI hs)])), (aB, .inl (cB, 8192, .inl g2_8)), (aP, .inl (cI, 16, .inl P)), (aL, .inl (cI, 16, .inl L))] H := hP
  have hD : va_D A [(h0, .inr (2, [.ref b0, .int (nI len)])), (b0, .inl (cB, 3000, .inl f)), (oS, .inr (1, [.ref aB, .int (nI en), .ref aP, .ref aL, .int (nI cn), .int (nI hs)])), (aB, .inl (cB, 8192, .inl g2_8)), (aP, .inl (cI, 16, .inl P)), (aL, .inl (cI, 16, .inl L))] := hD
  have hZ := w_7
  rw [cutM_0, ← part_0 (fb := fb)] at hZ
  refine lv_iconst (v := nI 0) hx hb dX1_takeFile_10 (by decide) ?_
  refine lv_istore_n (lv' := [(3, .int (nI 0)), (0, .ref oS), (1, .ref h0), (2, .int (nI en))]) hx hb dX1_takeFile_11 rfl hl (by decide) rfl (fun ls hl => ?_)
  refine wx_loop (σ := Nat × (Nat → Int32)) (fun xq9 => len - xq9.1) (fun xq9 H locs ls => (xq9.1 ≤ len) ∧ (mOk xq9.2 en (part fb xq9.1)) ∧ va_P (dC, dI) vwCl [(oS, .inr (1, [.ref aB, .int (nI en), .ref aP, .ref aL, .int (nI cn), .int (nI hs)])), (aB, .inl (cB, 8192, .inl xq9.2)), (aP, .inl (cI, 16, .inl P)), (aL, .inl (cI, 16, .inl L)), (h0, .inr (2, [.ref b0, .int (nI len)])), (b0, .inl (cB, 3000, .inl f))] H ∧ va_D A [(oS, .inr (1, [.ref aB, .int (nI en), .ref aP, .ref aL, .int (nI cn), .int (nI hs)])), (aB, .inl (cB, 8192, .inl xq9.2)), (aP, .inl (cI, 16, .inl P)), (aL, .inl (cI, 16, .inl L)), (h0, .inr (2, [.ref b0, .int (nI len)])), (b0, .inl (cB, 3000, .inl f))] ∧ va_S A s.heap H locs ∧ lv_has ls 4 [(0, .ref oS), (1, .ref h0), (2, .int (nI en)), (3, .int (nI xq9.1))]) ?_ (0, g2_8) _ _ _ ⟨by omega, hZ, hP.sub [2, 3, 4, 5, 0, 1] rfl, hD.sub [2, 3, 4, 5, 0, 1] (by decide) rfl, hS, lv_sub hl [1, 2, 3, 0] rfl⟩
  rintro ⟨i, g3⟩ H locs ls ⟨hi, hg, hP, hD, hS, hl⟩ ih
  have hi : i ≤ len := hi
  have hg : mOk g3 en (part fb i) := hg
  have hP : va_P (dC, dI) vwCl [(oS, .inr (1, [.ref aB, .int (nI en), .ref aP, .ref aL, .int (nI cn), .int (nI hs)])), (aB, .inl (cB, 8192, .inl g3)), (aP, .inl (cI, 16, .inl P)), (aL, .inl (cI, 16, .inl L)), (h0, .inr (2, [.ref b0, .int (nI len)])), (b0, .inl (cB, 3000, .inl f))] H := hP
  have hD : va_D A [(oS, .inr (1, [.ref aB, .int (nI en), .ref aP, .ref aL, .int (nI cn), .int (nI hs)])), (aB, .inl (cB, 8192, .inl g3)), (aP, .inl (cI, 16, .inl P)), (aL, .inl (cI, 16, .inl L)), (h0, .inr (2, [.ref b0, .int (nI len)])), (b0, .inl (cB, 3000, .inl f))] := hD
  have hl : lv_has ls 4 [(0, .ref oS), (1, .ref h0), (2, .int (nI en)), (3, .int (nI i))] := hl
  refine lv_iload_n hx hb dX1_takeFile_12 rfl (lv_at hl 3 rfl) ?_
  refine lv_aload_n hx hb dX1_takeFile_13 rfl (lv_at hl 1 rfl) ?_
  refine va_getN (D := (dC, dI)) (ci := 2) (v := .int (nI len)) (C := RX2) (T := TX2) (N := 2) hx hb hts (by decide +kernel) hown hK hP 4 rfl rfl 1 (by decide) (va_Nw.use rfl (hN (.fieldLinkNest RX1 44 "GlulxHeads$StoryFile" "length" "I" "GlulxHeads") (by decide +kernel))) (fun _ h9 => h9) rfl dX1_takeFile_14 ?_
  refine wx_icmp_ge (tgt := 36) hx hb dX1_takeFile_17 (by decide) (by omega) (by omega) (fun c_9 => ?_) (fun c_9 => ?_)
  · skip
    have hP9 := hP.sub (ws' := [(oS, .inr (1, [.ref aB, .int (nI en), .ref aP, .ref aL, .int (nI cn), .int (nI hs)])), (aB, .inl (cB, 8192, .inl g3)), (aP, .inl (cI, 16, .inl P)), (aL, .inl (cI, 16, .inl L)), (h0, .inr (2, [.ref b0, .int (nI len)])), (b0, .inl (cB, 3000, .inl f))]) [0, 1, 2, 3, 4, 5] rfl
    have hD9 := hD.sub (ws' := [(oS, .inr (1, [.ref aB, .int (nI en), .ref aP, .ref aL, .int (nI cn), .int (nI hs)])), (aB, .inl (cB, 8192, .inl g3)), (aP, .inl (cI, 16, .inl P)), (aL, .inl (cI, 16, .inl L)), (h0, .inr (2, [.ref b0, .int (nI len)])), (b0, .inl (cB, 3000, .inl f))]) [0, 1, 2, 3, 4, 5] (by decide) rfl
    exact W.vret hx hb hr (fun t ht hW => ⟨⟨(g3), rfl, (by rw [← part_all hF.2.2.1, show len = i by omega]; exact hg), by rw [ht]; exact hP9, hD9⟩, hS.F ht⟩) hS.2.2 dX1_takeFile_36
  · skip
    refine lv_aload_n hx hb dX1_takeFile_20 rfl (lv_at hl 0 rfl) ?_
    refine lv_iload_n hx hb dX1_takeFile_21 rfl (lv_at hl 3 rfl) ?_
    refine lv_aload_n hx hb dX1_takeFile_22 rfl (lv_at hl 1 rfl) ?_
    refine lv_iload_n hx hb dX1_takeFile_23 rfl (lv_at hl 3 rfl) ?_
    have hPc := hP.sub (ws' := [(h0, .inr (2, [.ref b0, .int (nI len)])), (b0, .inl (cB, 3000, .inl f))]) [4, 5] rfl
    have hDc := hD.sub (ws' := [(h0, .inr (2, [.ref b0, .int (nI len)])), (b0, .inl (cB, 3000, .inl f))]) [4, 5] (by decide) rfl
    have hFc := va_free (wc := [(h0, .inr (2, [.ref b0, .int (nI len)])), (b0, .inl (cB, 3000, .inl f))]) hD hS hA [4, 5] rfl
    refine va_calli (va_runVN (As := [.int (nI i)]) (rest := [.int (nI i), .ref oS]) ⟨hx, hb, hml, hown, hts⟩ (c_X2_byteAt l dC dI cB cI cJ H.size h0 b0 f len fb i hF (by omega)) ⟨va_cnB 1 hts gX1_takeFile_X2_byteAt_n49 rfl rfl rfl (hN (.methodLinkNest RX1 49 yX2_byteAt "GlulxHeads") (by decide +kernel)) (hts (.initialized RX2) (by decide +kernel)) (by decide +kernel) ⟨Nat.le_of_ble_eq_true rfl, Nat.le_of_ble_eq_true rfl⟩, hts (.instanceMethod yX2_byteAt) (by decide +kernel), hts (.selects RX2 yX2_byteAt yX2_byteAt) (by decide +kernel)⟩ ⟨wBlind, va_recv hK hPc (ci := 2) (q0 := 0) rfl rfl, wGo hK hPc hDc hN⟩ rfl rfl hl.1 rfl (lv_room (Nat.le_of_ble_eq_true rfl)) dX1_takeFile_24 ⟨show 0 ≤ 0 by decide, show 0 ≤ 0 by decide⟩) hS (fun q _ h => hFc q h) hFc (fun r_11 u t H1 locs ht hvm w_12 hB hz1 hk1 hS => ?_)
    clear u
    obtain ⟨hP1, hD1⟩ := hB
    rw [ht] at hP1
    try dsimp only at w_12
    obtain ⟨hP, hD⟩ := va_join (wr := [(oS, .inr (1, [.ref aB, .int (nI en), .ref aP, .ref aL, .int (nI cn), .int (nI hs)])), (aB, .inl (cB, 8192, .inl g3)), (aP, .inl (cI, 16, .inl P)), (aL, .inl (cI, 16, .inl L))]) (w1 := [(h0, .inr (2, [.ref b0, .int (nI len)])), (b0, .inl (cB, 3000, .inl f))]) hP hD [4, 5] [0, 1, 2, 3] rfl rfl (by decide) (by decide) hk1 hFc hP1 hD1
    clear hPc hDc hFc hP1 hD1 hz1 hk1 hvm
    generalize H1 = H at hP hS ⊢
    have hP : va_P (dC, dI) vwCl [(oS, .inr (1, [.ref aB, .int (nI en), .ref aP, .ref aL, .int (nI cn), .int (nI hs)])), (aB, .inl (cB, 8192, .inl g3)), (aP, .inl (cI, 16, .inl P)), (aL, .inl (cI, 16, .inl L)), (h0, .inr (2, [.ref b0, .int (nI len)])), (b0, .inl (cB, 3000, .inl f))] H := hP
    have hD : va_D A [(oS, .inr (1, [.ref aB, .int (nI en), .ref aP, .ref aL, .int (nI cn), .int (nI hs)])), (aB, .inl (cB, 8192, .inl g3)), (aP, .inl (cI, 16, .inl P)), (aL, .inl (cI, 16, .inl L)), (h0, .inr (2, [.ref b0, .int (nI len)])), (b0, .inl (cB, 3000, .inl f))] := hD
    subst w_12
    have hPc := hP.sub (ws' := [(oS, .inr (1, [.ref aB, .int (nI en), .ref aP, .ref aL, .int (nI cn), .int (nI hs)])), (aB, .inl (cB, 8192, .inl g3)), (aP, .inl (cI, 16, .inl P)), (aL, .inl (cI, 16, .inl L))]) [0, 1, 2, 3] rfl
    have hDc := hD.sub (ws' := [(oS, .inr (1, [.ref aB, .int (nI en), .ref aP, .ref aL, .int (nI cn), .int (nI hs)])), (aB, .inl (cB, 8192, .inl g3)), (aP, .inl (cI, 16, .inl P)), (aL, .inl (cI, 16, .inl L))]) [0, 1, 2, 3] (by decide) rfl
    have hFc := va_free (wc := [(oS, .inr (1, [.ref aB, .int (nI en), .ref aP, .ref aL, .int (nI cn), .int (nI hs)])), (aB, .inl (cB, 8192, .inl g3)), (aP, .inl (cI, 16, .inl P)), (aL, .inl (cI, 16, .inl L))]) hD hS hA [0, 1, 2, 3] rfl
    refine va_callv (va_runV (As := [.int (nI i), .int (nI (fb i))]) (rest := []) ⟨hx, hb, hml, hown, hts⟩ (c_X1_putByte l dC dI cB cI cJ H.size oS aB aP aL en cn hs g3 P L (part fb i) i (nI (fb i)) hg (by omega)) (cwV 2 hts gX1_takeFile_X1_putByte rfl rfl rfl (by decide +kernel) ⟨Nat.le_of_ble_eq_true rfl, Nat.le_of_ble_eq_true rfl⟩) ⟨wBlind, va_recv hK hPc (ci := 1) (q0 := 0) rfl rfl, wGo hK hPc hDc hN⟩ rfl rfl hl.1 rfl (lv_room (Nat.le_of_ble_eq_true rfl)) dX1_takeFile_27 ⟨show 0 ≤ 0 by decide, show 0 ≤ 0 by decide⟩) hS (fun q _ h => hFc q h) hFc (fun u t H1 locs ht hvm w_15 hB hz1 hk1 hS => ?_)
    obtain ⟨g2_16, rfl⟩ : ∃ z, z = u := ⟨_, rfl⟩
    obtain ⟨hP1, hD1⟩ := hB
    rw [ht] at hP1
    try dsimp only at w_15
    obtain ⟨hP, hD⟩ := va_join (wr := [(h0, .inr (2, [.ref b0, .int (nI len)])), (b0, .inl (cB, 3000, .inl f))]) (w1 := [(oS, .inr (1, [.ref aB, .int (nI en), .ref aP, .ref aL, .int (nI cn), .int (nI hs)])), (aB, .inl (cB, 8192, .inl g2_16)), (aP, .inl (cI, 16, .inl P)), (aL, .inl (cI, 16, .inl L))]) hP hD [0, 1, 2, 3] [4, 5] rfl rfl (by decide) (by decide) hk1 hFc hP1 hD1
    clear hPc hDc hFc hP1 hD1 hz1 hk1 hvm
    generalize H1 = H at hP hS ⊢
    have hP : va_P (dC, dI) vwCl [(h0, .inr (2, [.ref b0, .int (nI len)])), (b0, .inl (cB, 3000, .inl f)), (oS, .inr (1, [.ref aB, .int (nI en), .ref aP, .ref aL, .int (nI cn), .int (nI hs)])), (aB, .inl (cB, 8192, .inl g2_16)), (aP, .inl (cI, 16, .inl P)), (aL, .inl (cI, 16, .inl L))] H := hP
    have hD : va_D A [(h0, .inr (2, [.ref b0, .int (nI len)])), (b0, .inl (cB, 3000, .inl f)), (oS, .inr (1, [.ref aB, .int (nI en), .ref aP, .ref aL, .int (nI cn), .int (nI hs)])), (aB, .inl (cB, 8192, .inl g2_16)), (aP, .inl (cI, 16, .inl P)), (aL, .inl (cI, 16, .inl L))] := hD
    rw [part_s hF2 i] at w_15
    refine lv_iinc (v := nI (i + 1)) (lv' := [(3, .int (nI (i + 1))), (0, .ref oS), (1, .ref h0), (2, .int (nI en))]) hx hb dX1_takeFile_30 hl (k := 3) rfl (by rw [show Int32.ofInt 1 = nI 1 by decide]; exact nI_add _ _) (by decide) rfl (fun ls hl => ?_)
    refine lv_goto (tgt := 12) hx hb dX1_takeFile_33 (by decide) ?_
    exact ih ((i + 1), g2_16) _ _ _ (by omega) ⟨by omega, (by assumption), hP.sub [2, 3, 4, 5, 0, 1] rfl, hD.sub [2, 3, 4, 5, 0, 1] (by decide) rfl, hS, lv_sub hl [1, 2, 3, 0] rfl⟩
set_option maxHeartbeats 4000000 in
set_option maxRecDepth 100000 in
theorem c_X1_putValue (l : Launch) (dC : Nat → ClassId) (dI : Nat → Nat → Nat) (cB cI cJ : ClassId) (sz : Nat) (oS : Nat) (aB : Nat) (aP : Nat) (aL : Nat) (mz : Nat) (cn : Nat) (hs : Nat) (g : Nat → Int32) (P : Nat → Int32) (L : Nat → Int32) (mem : Nat → Nat) (w : Nat) (j : Nat) (v : Int32) (hM : mOk g mz mem) (hw1 : 1 ≤ w) (hw4 : w ≤ 4) (hj : j + w ≤ mz) : Met l yX1_putValue wsX1_putValue ({ frames := 1, cells := 0, slots := 0, locals := 22 }) (va_Pc [.ref oS, .int (nI w), .int (nI j), .int v] (wPre dC dI cB cI cJ sz [(oS, .inr (1, [.ref aB, .int (nI mz), .ref aP, .ref aL, .int (nI cn), .int (nI hs)])), (aB, .inl (cB, 8192, .inl g)), (aP, .inl (cI, 16, .inl P)), (aL, .inl (cI, 16, .inl L))])) (va_Qv (fun (u : (Nat → Int32)) => mOk u mz (pAtP mem w 0 j v)) (fun (u : (Nat → Int32)) => wPost dC dI (va_A [(oS, .inr (1, [.ref aB, .int (nI mz), .ref aP, .ref aL, .int (nI cn), .int (nI hs)])), (aB, .inl (cB, 8192, .inl g)), (aP, .inl (cI, 16, .inl P)), (aL, .inl (cI, 16, .inl L))] sz) [(oS, .inr (1, [.ref aB, .int (nI mz), .ref aP, .ref aL, .int (nI cn), .int (nI hs)])), (aB, .inl (cB, 8192, .inl u)), (aP, .inl (cI, 16, .inl P)), (aL, .inl (cI, 16, .inl L))]) (va_A [(oS, .inr (1, [.ref aB, .int (nI mz), .ref aP, .ref aL, .int (nI cn), .int (nI hs)])), (aB, .inl (cB, 8192, .inl g)), (aP, .inl (cI, 16, .inl P)), (aL, .inl (cI, 16, .inl L))] sz)) 0 0 (va_A [(oS, .inr (1, [.ref aB, .int (nI mz), .ref aP, .ref aL, .int (nI cn), .int (nI hs)])), (aB, .inl (cB, 8192, .inl g)), (aP, .inl (cI, 16, .inl P)), (aL, .inl (cI, 16, .inl L))] sz) := by
  refine Met.ofW (cc := cX1_putValue) (maxL := 6) (ret := none) (by decide) rfl ?_
  intro p e s m args below meth c s₁ B hml hv
  obtain ⟨rfl, hsz, hP, hK, hD0, hN⟩ := hv
  have hx := B.exec
  have hb := B.bytes
  have hr := B.returns
  have hts := atoms_spec (ws := wsX1_putValue) B.pre
  have hown : s.vm.findClass RX1 = some m.cls := findClass_of_methodNamed B.named
  have hlocks := B.notSynchronized
  subst hsz
  have hD := hD0.self (sz := s.heap.size)
  generalize hAe : va_A [(oS, .inr (1, [.ref aB, .int (nI mz), .ref aP, .ref aL, .int (nI cn), .int (nI hs)])), (aB, .inl (cB, 8192, .inl g)), (aP, .inl (cI, 16, .inl P)), (aL, .inl (cI, 16, .inl L))] s.heap.size = A at hD ⊢
  have hA : ∀ q : Nat, s.heap.size ≤ q → A q := fun q h => by rw [← hAe]; exact Or.inr h
  have hS : va_S A s.heap s.heap [] := va_S.rf
  have hP : va_P (dC, dI) vwCl [(oS, .inr (1, [.ref aB, .int (nI mz), .ref aP, .ref aL, .int (nI cn), .int (nI hs)])), (aB, .inl (cB, 8192, .inl g)), (aP, .inl (cI, 16, .inl P)), (aL, .inl (cI, 16, .inl L))] s.heap := hP
  have hl := lv_entry ([.ref oS, .int (nI w), .int (nI j), .int v]) (n := 6) (Nat.le_of_ble_eq_true rfl)
  rw [lg_entry_eq]
  generalize (lg_sl ([.ref oS, .int (nI w), .int (nI j), .int v]) ++ List.replicate (6 - (lg_sl ([.ref oS, .int (nI w), .int (nI j), .int v])).length) Slot.unset).toArray = ls at hl ⊢
  have hl : lv_has ls 6 [(0, .ref oS), (1, .int (nI w)), (2, .int (nI j)), (3, .int v)] := hl
  have hM1 := hM.1
  have hM2 := hM.2.1
  refine lv_iload_n hx hb dX1_putValue_0 rfl (lv_at hl 3 rfl) ?_
  refine lv_istore (lv' := [(4, .int v), (0, .ref oS), (1, .int (nI w)), (2, .int (nI j)), (3, .int v)]) hx hb dX1_putValue_1 hl (by decide) rfl (fun ls hl => ?_)
  refine lv_iload_n hx hb dX1_putValue_3 rfl (lv_at hl 2 rfl) ?_
  refine lv_iconst (v := nI 1) hx hb dX1_putValue_4 (by decide) ?_
  refine lv_isub hx hb dX1_putValue_5 ?_
  refine lv_istore (lv' := [(5, .int ((nI w) - (nI 1))), (4, .int v), (0, .ref oS), (1, .int (nI w)), (2, .int (nI j)), (3, .int v)]) hx hb dX1_putValue_6 hl (by decide) rfl (fun ls hl => ?_)
  refine wx_loop (σ := Nat × Int32 × (Nat → Int32)) (fun xq9 => xq9.1) (fun xq9 H locs ls => (xq9.1 ≤ w) ∧ (uB xq9.2.1 = uB v / 256 ^ (w - xq9.1)) ∧ (mOk xq9.2.2 mz (pAtP mem w xq9.1 j v)) ∧ va_P (dC, dI) vwCl [(oS, .inr (1, [.ref aB, .int (nI mz), .ref aP, .ref aL, .int (nI cn), .int (nI hs)])), (aB, .inl (cB, 8192, .inl xq9.2.2)), (aP, .inl (cI, 16, .inl P)), (aL, .inl (cI, 16, .inl L))] H ∧ va_D A [(oS, .inr (1, [.ref aB, .int (nI mz), .ref aP, .ref aL, .int (nI cn), .int (nI hs)])), (aB, .inl (cB, 8192, .inl xq9.2.2)), (aP, .inl (cI, 16, .inl P)), (aL, .inl (cI, 16, .inl L))] ∧ va_S A s.heap H locs ∧ lv_has ls 6 [(0, .ref oS), (1, .int (nI w)), (2, .int (nI j)), (3, .int v), (4, .int xq9.2.1), (5, .int ((nI xq9.1) - (nI 1)))]) ?_ (w, v, g) _ _ _ ⟨by omega, (by rw [Nat.sub_self, Nat.pow_zero, Nat.div_one]), (by rw [pAt_w]; exact hM), hP.sub [0, 1, 2, 3] rfl, hD.sub [0, 1, 2, 3] (by decide) rfl, hS, lv_sub hl [2, 3, 4, 5, 1, 0] rfl⟩
  rintro ⟨tt, re, g3⟩ H locs ls ⟨ht2, hre, hg, hP, hD, hS, hl⟩ ih
  have ht2 : tt ≤ w := ht2
  have hre : uB re = uB v / 256 ^ (w - tt) := hre
  have hg : mOk g3 mz (pAtP mem w tt j v) := hg
  have hP : va_P (dC, dI) vwCl [(oS, .inr (1, [.ref aB, .int (nI mz), .ref aP, .ref aL, .int (nI cn), .int (nI hs)])), (aB, .inl (cB, 8192, .inl g3)), (aP, .inl (cI, 16, .inl P)), (aL, .inl (cI, 16, .inl L))] H := hP
  have hD : va_D A [(oS, .inr (1, [.ref aB, .int (nI mz), .ref aP, .ref aL, .int (nI cn), .int (nI hs)])), (aB, .inl (cB, 8192, .inl g3)), (aP, .inl (cI, 16, .inl P)), (aL, .inl (cI, 16, .inl L))] := hD
  have hl : lv_has ls 6 [(0, .ref oS), (1, .int (nI w)), (2, .int (nI j)), (3, .int v), (4, .int re), (5, .int ((nI tt) - (nI 1)))] := hl
  refine lv_iload hx hb dX1_putValue_8 (lv_at hl 5 rfl) ?_
  refine lv_if_lt (tgt := 36) hx hb dX1_putValue_10 (by decide) (fun c_1 => ?_) (fun c_1 => ?_)
  · skip
    rw [Int32.lt_iff_toInt_lt, pk_sub_toInt (a := tt) (b := 1) (by omega) (by omega), show (0 : Int32).toInt = 0 by decide] at c_1
    have hP9 := hP.sub (ws' := [(oS, .inr (1, [.ref aB, .int (nI mz), .ref aP, .ref aL, .int (nI cn), .int (nI hs)])), (aB, .inl (cB, 8192, .inl g3)), (aP, .inl (cI, 16, .inl P)), (aL, .inl (cI, 16, .inl L))]) [0, 1, 2, 3] rfl
    have hD9 := hD.sub (ws' := [(oS, .inr (1, [.ref aB, .int (nI mz), .ref aP, .ref aL, .int (nI cn), .int (nI hs)])), (aB, .inl (cB, 8192, .inl g3)), (aP, .inl (cI, 16, .inl P)), (aL, .inl (cI, 16, .inl L))]) [0, 1, 2, 3] (by decide) rfl
    exact W.vret hx hb hr (fun t ht hW => ⟨⟨(g3), rfl, (by rw [show tt = 0 by omega] at hg; exact hg), by rw [ht]; exact hP9, hD9⟩, hS.F ht⟩) hS.2.2 dX1_putValue_36
  · skip
    rw [Int32.lt_iff_toInt_lt, pk_sub_toInt (a := tt) (b := 1) (by omega) (by omega), show (0 : Int32).toInt = 0 by decide] at c_1
    have hl : lv_has ls 6 [(0, .ref oS), (1, .int (nI w)), (2, .int (nI j)), (3, .int v), (4, .int re), (5, .int (nI (tt - 1)))] := by rw [← pk_sub (show 1 ≤ tt by omega)]; exact hl
    refine lv_aload_n hx hb dX1_putValue_13 rfl (lv_at hl 0 rfl) ?_
    refine lv_iload_n hx hb dX1_putValue_14 rfl (lv_at hl 2 rfl) ?_
    refine lv_iload hx hb dX1_putValue_15 (lv_at hl 5 rfl) ?_
    refine wx_iadd hx hb dX1_putValue_17 ?_
    refine lv_iload hx hb dX1_putValue_18 (lv_at hl 4 rfl) ?_
    have hPc := hP.sub (ws' := [(oS, .inr (1, [.ref aB, .int (nI mz), .ref aP, .ref aL, .int (nI cn), .int (nI hs)])), (aB, .inl (cB, 8192, .inl g3)), (aP, .inl (cI, 16, .inl P)), (aL, .inl (cI, 16, .inl L))]) [0, 1, 2, 3] rfl
    have hDc := hD.sub (ws' := [(oS, .inr (1, [.ref aB, .int (nI mz), .ref aP, .ref aL, .int (nI cn), .int (nI hs)])), (aB, .inl (cB, 8192, .inl g3)), (aP, .inl (cI, 16, .inl P)), (aL, .inl (cI, 16, .inl L))]) [0, 1, 2, 3] (by decide) rfl
    have hFc := va_free (wc := [(oS, .inr (1, [.ref aB, .int (nI mz), .ref aP, .ref aL, .int (nI cn), .int (nI hs)])), (aB, .inl (cB, 8192, .inl g3)), (aP, .inl (cI, 16, .inl P)), (aL, .inl (cI, 16, .inl L))]) hD hS hA [0, 1, 2, 3] rfl
    refine va_callv (va_runV (As := [.int (nI (j + (tt - 1))), .int re]) (rest := []) ⟨hx, hb, hml, hown, hts⟩ (c_X1_putByte l dC dI cB cI cJ H.size oS aB aP aL mz cn hs g3 P L (pAtP mem w tt j v) (j + (tt - 1)) re hg (by omega)) (cwV 2 hts gX1_putValue_X1_putByte rfl rfl rfl (by decide +kernel) ⟨Nat.le_of_ble_eq_true rfl, Nat.le_of_ble_eq_true rfl⟩) ⟨wBlind, va_recv hK hPc (ci := 1) (q0 := 0) rfl rfl, wGo hK hPc hDc hN⟩ rfl rfl hl.1 rfl (lv_room (Nat.le_of_ble_eq_true rfl)) dX1_putValue_20 ⟨show 0 ≤ 0 by decide, show 0 ≤ 0 by decide⟩) hS (fun q _ h => hFc q h) hFc (fun u t H1 locs ht hvm w_4 hB hz1 hk1 hS => ?_)
    obtain ⟨g2_5, rfl⟩ : ∃ z, z = u := ⟨_, rfl⟩
    obtain ⟨hP1, hD1⟩ := hB
    rw [ht] at hP1
    try dsimp only at w_4
    obtain ⟨hP, hD⟩ := va_join (wr := []) (w1 := [(oS, .inr (1, [.ref aB, .int (nI mz), .ref aP, .ref aL, .int (nI cn), .int (nI hs)])), (aB, .inl (cB, 8192, .inl g2_5)), (aP, .inl (cI, 16, .inl P)), (aL, .inl (cI, 16, .inl L))]) hP hD [0, 1, 2, 3] [] rfl rfl (by decide) (by decide) hk1 hFc hP1 hD1
    clear hPc hDc hFc hP1 hD1 hz1 hk1 hvm
    generalize H1 = H at hP hS ⊢
    have hP : va_P (dC, dI) vwCl [(oS, .inr (1, [.ref aB, .int (nI mz), .ref aP, .ref aL, .int (nI cn), .int (nI hs)])), (aB, .inl (cB, 8192, .inl g2_5)), (aP, .inl (cI, 16, .inl P)), (aL, .inl (cI, 16, .inl L))] H := hP
    have hD : va_D A [(oS, .inr (1, [.ref aB, .int (nI mz), .ref aP, .ref aL, .int (nI cn), .int (nI hs)])), (aB, .inl (cB, 8192, .inl g2_5)), (aP, .inl (cI, 16, .inl P)), (aL, .inl (cI, 16, .inl L))] := hD
    rw [pAt_s (by omega) ht2 hre] at w_4
    refine lv_iload hx hb dX1_putValue_23 (lv_at hl 4 rfl) ?_
    refine lv_bipush (v := nI 8) hx hb dX1_putValue_25 (by decide) ?_
    refine lv_iushr hx hb dX1_putValue_27 rfl ?_
    refine lv_istore (lv' := [(4, .int ((re.toUInt32 >>> ((nI 8).toUInt32 &&& Int32.toUInt32 31)).toInt32)), (0, .ref oS), (1, .int (nI w)), (2, .int (nI j)), (3, .int v), (5, .int (nI (tt - 1)))]) hx hb dX1_putValue_28 hl (by decide) rfl (fun ls hl => ?_)
    refine lv_iinc (v := (nI (tt - 1)) - (nI 1)) (lv' := [(5, .int ((nI (tt - 1)) - (nI 1))), (4, .int ((re.toUInt32 >>> ((nI 8).toUInt32 &&& Int32.toUInt32 31)).toInt32)), (0, .ref oS), (1, .int (nI w)), (2, .int (nI j)), (3, .int v)]) hx hb dX1_putValue_30 hl (k := 5) rfl (iinc_m1 _) (by decide) rfl (fun ls hl => ?_)
    refine lv_goto (tgt := 8) hx hb dX1_putValue_33 (by decide) ?_
    exact ih ((tt - 1), ((re.toUInt32 >>> ((nI 8).toUInt32 &&& Int32.toUInt32 31)).toInt32), g2_5) _ _ _ (by omega) ⟨by omega, pAt_r (by omega) ht2 hre, (by assumption), hP.sub [0, 1, 2, 3] rfl, hD.sub [0, 1, 2, 3] (by decide) rfl, hS, lv_sub hl [2, 3, 4, 5, 1, 0] rfl⟩
set_option maxHeartbeats 4000000 in
set_option maxRecDepth 100000 in
theorem c_X1_gapFor (l : Launch) (dC : Nat → ClassId) (dI : Nat → Nat → Nat) (cB cI cJ : ClassId) (sz : Nat) (oS : Nat) (aB : Nat) (aP : Nat) (aL : Nat) (mz : Nat) (cn : Nat) (hs : Nat) (g : Nat → Int32) (P : Nat → Int32) (L : Nat → Int32) (pl : Nat → Nat) (ll : Nat → Nat) (n : Nat) (st0 : Nat) (hcn : cn ≤ 16) (hPl : bOk P cn pl) (hLl : bOk L cn ll) (hbd : ∀ i, i < cn → pl i + ll i ≤ 8192) (hn : n < 2147483648) (hst : st0 ≤ 8192) : Met l yX1_gapFor wsX1_gapFor ({ frames := 1, cells := 0, slots := 0, locals := 21 }) (va_Pc [.ref oS, .int (nI n), .int (nI st0)] (wPre dC dI cB cI cJ sz [(oS, .inr (1, [.ref aB, .int (nI mz), .ref aP, .ref aL, .int (nI cn), .int (nI hs)])), (aB, .inl (cB, 8192, .inl g)), (aP, .inl (cI, 16, .inl P)), (aL, .inl (cI, 16, .inl L))])) (va_Qi (fun (r : Int32) (u : Unit) => r = nI (gapI pl ll n cn 0 st0)) (fun (u : Unit) => wPost dC dI (va_A [(oS, .inr (1, [.ref aB, .int (nI mz), .ref aP, .ref aL, .int (nI cn), .int (nI hs)])), (aB, .inl (cB, 8192, .inl g)), (aP, .inl (cI, 16, .inl P)), (aL, .inl (cI, 16, .inl L))] sz) [(oS, .inr (1, [.ref aB, .int (nI mz), .ref aP, .ref aL, .int (nI cn), .int (nI hs)])), (aB, .inl (cB, 8192, .inl g)), (aP, .inl (cI, 16, .inl P)), (aL, .inl (cI, 16, .inl L))]) (va_A [(oS, .inr (1, [.ref aB, .int (nI mz), .ref aP, .ref aL, .int (nI cn), .int (nI hs)])), (aB, .inl (cB, 8192, .inl g)), (aP, .inl (cI, 16, .inl P)), (aL, .inl (cI, 16, .inl L))] sz)) 0 0 (va_A [(oS, .inr (1, [.ref aB, .int (nI mz), .ref aP, .ref aL, .int (nI cn), .int (nI hs)])), (aB, .inl (cB, 8192, .inl g)), (aP, .inl (cI, 16, .inl P)), (aL, .inl (cI, 16, .inl L))] sz) := by
  refine Met.ofW (cc := cX1_gapFor) (maxL := 5) (ret := (some .int)) (by decide) rfl ?_
  intro p e s m args below meth c s₁ B hml hv
  obtain ⟨rfl, hsz, hP, hK, hD0, hN⟩ := hv
  have hx := B.exec
  have hb := B.bytes
  have hr := B.returns
  have hts := atoms_spec (ws := wsX1_gapFor) B.pre
  have hown : s.vm.findClass RX1 = some m.cls := findClass_of_methodNamed B.named
  have hlocks := B.notSynchronized
  subst hsz
  have hD := hD0.self (sz := s.heap.size)
  generalize hAe : va_A [(oS, .inr (1, [.ref aB, .int (nI mz), .ref aP, .ref aL, .int (nI cn), .int (nI hs)])), (aB, .inl (cB, 8192, .inl g)), (aP, .inl (cI, 16, .inl P)), (aL, .inl (cI, 16, .inl L))] s.heap.size = A at hD ⊢
  have hA : ∀ q : Nat, s.heap.size ≤ q → A q := fun q h => by rw [← hAe]; exact Or.inr h
  have hS : va_S A s.heap s.heap [] := va_S.rf
  have hP : va_P (dC, dI) vwCl [(oS, .inr (1, [.ref aB, .int (nI mz), .ref aP, .ref aL, .int (nI cn), .int (nI hs)])), (aB, .inl (cB, 8192, .inl g)), (aP, .inl (cI, 16, .inl P)), (aL, .inl (cI, 16, .inl L))] s.heap := hP
  have hl := lv_entry ([.ref oS, .int (nI n), .int (nI st0)]) (n := 5) (Nat.le_of_ble_eq_true rfl)
  rw [lg_entry_eq]
  generalize (lg_sl ([.ref oS, .int (nI n), .int (nI st0)]) ++ List.replicate (5 - (lg_sl ([.ref oS, .int (nI n), .int (nI st0)])).length) Slot.unset).toArray = ls at hl ⊢
  have hl : lv_has ls 5 [(0, .ref oS), (1, .int (nI n)), (2, .int (nI st0))] := hl
  refine lv_iload_n hx hb dX1_gapFor_0 rfl (lv_at hl 2 rfl) ?_
  refine lv_istore_n (lv' := [(3, .int (nI st0)), (0, .ref oS), (1, .int (nI n)), (2, .int (nI st0))]) hx hb dX1_gapFor_1 rfl hl (by decide) rfl (fun ls hl => ?_)
  refine lv_iconst (v := nI 0) hx hb dX1_gapFor_2 (by decide) ?_
  refine lv_istore (lv' := [(4, .int (nI 0)), (3, .int (nI st0)), (0, .ref oS), (1, .int (nI n)), (2, .int (nI st0))]) hx hb dX1_gapFor_3 hl (by decide) rfl (fun ls hl => ?_)
  refine wx_loop (σ := Nat × Nat) (fun xq9 => cn - xq9.1) (fun xq9 H locs ls => (xq9.1 ≤ cn) ∧ (xq9.2 ≤ 8192) ∧ (gapI pl ll n cn 0 st0 = gapI pl ll n (cn - xq9.1) xq9.1 xq9.2) ∧ va_P (dC, dI) vwCl [(oS, .inr (1, [.ref aB, .int (nI mz), .ref aP, .ref aL, .int (nI cn), .int (nI hs)])), (aB, .inl (cB, 8192, .inl g)), (aP, .inl (cI, 16, .inl P)), (aL, .inl (cI, 16, .inl L))] H ∧ va_D A [(oS, .inr (1, [.ref aB, .int (nI mz), .ref aP, .ref aL, .int (nI cn), .int (nI hs)])), (aB, .inl (cB, 8192, .inl g)), (aP, .inl (cI, 16, .inl P)), (aL, .inl (cI, 16, .inl L))] ∧ va_S A s.heap H locs ∧ lv_has ls 5 [(0, .ref oS), (1, .int (nI n)), (2, .int (nI st0)), (3, .int (nI xq9.2)), (4, .int (nI xq9.1))]) ?_ (0, st0) _ _ _ ⟨by omega, by omega, rfl, hP.sub [0, 1, 2, 3] rfl, hD.sub [0, 1, 2, 3] (by decide) rfl, hS, lv_sub hl [2, 3, 4, 1, 0] rfl⟩
  rintro ⟨i, pos⟩ H locs ls ⟨hi, hp, heq, hP, hD, hS, hl⟩ ih
  have hi : i ≤ cn := hi
  have hp : pos ≤ 8192 := hp
  have heq : gapI pl ll n cn 0 st0 = gapI pl ll n (cn - i) i pos := heq
  have hP : va_P (dC, dI) vwCl [(oS, .inr (1, [.ref aB, .int (nI mz), .ref aP, .ref aL, .int (nI cn), .int (nI hs)])), (aB, .inl (cB, 8192, .inl g)), (aP, .inl (cI, 16, .inl P)), (aL, .inl (cI, 16, .inl L))] H := hP
  have hD : va_D A [(oS, .inr (1, [.ref aB, .int (nI mz), .ref aP, .ref aL, .int (nI cn), .int (nI hs)])), (aB, .inl (cB, 8192, .inl g)), (aP, .inl (cI, 16, .inl P)), (aL, .inl (cI, 16, .inl L))] := hD
  have hl : lv_has ls 5 [(0, .ref oS), (1, .int (nI n)), (2, .int (nI st0)), (3, .int (nI pos)), (4, .int (nI i))] := hl
  refine lv_iload hx hb dX1_gapFor_5 (lv_at hl 4 rfl) ?_
  refine lv_aload_n hx hb dX1_gapFor_7 rfl (lv_at hl 0 rfl) ?_
  refine va_get (D := (dC, dI)) (ci := 1) (v := .int (nI cn)) (C := RX1) (T := TX1) (N := 6) hx hb hts (by decide +kernel) hown hK hP 0 rfl rfl 4 (by decide) (hts (.fieldLink RX1 26 "GlulxHeads$State" "blockCount" "I") (by decide +kernel)) (fun _ h9 => h9) rfl dX1_gapFor_8 ?_
  refine wx_icmp_ge (tgt := 43) hx hb dX1_gapFor_11 (by decide) (by omega) (by omega) (fun c_1 => ?_) (fun c_1 => ?_)
  · skip
    refine lv_aload_n hx hb dX1_gapFor_43 rfl (lv_at hl 0 rfl) ?_
    refine va_get (D := (dC, dI)) (ci := 1) (v := .int (nI cn)) (C := RX1) (T := TX1) (N := 6) hx hb hts (by decide +kernel) hown hK hP 0 rfl rfl 4 (by decide) (hts (.fieldLink RX1 26 "GlulxHeads$State" "blockCount" "I") (by decide +kernel)) (fun _ h9 => h9) rfl dX1_gapFor_44 ?_
    have hP9 := hP.sub (ws' := [(oS, .inr (1, [.ref aB, .int (nI mz), .ref aP, .ref aL, .int (nI cn), .int (nI hs)])), (aB, .inl (cB, 8192, .inl g)), (aP, .inl (cI, 16, .inl P)), (aL, .inl (cI, 16, .inl L))]) [0, 1, 2, 3] rfl
    have hD9 := hD.sub (ws' := [(oS, .inr (1, [.ref aB, .int (nI mz), .ref aP, .ref aL, .int (nI cn), .int (nI hs)])), (aB, .inl (cB, 8192, .inl g)), (aP, .inl (cI, 16, .inl P)), (aL, .inl (cI, 16, .inl L))]) [0, 1, 2, 3] (by decide) rfl
    exact W.iret (v := nI cn) hx hb hr (fun t ht hW => ⟨⟨(nI cn), (), rfl, (by rw [heq, show cn - i = 0 by omega]; exact congrArg nI (show cn = i by omega)), by rw [ht]; exact hP9, hD9⟩, hS.F ht⟩) hS.2.2 dX1_gapFor_47
  · skip
    refine lv_aload_n hx hb dX1_gapFor_14 rfl (lv_at hl 0 rfl) ?_
    refine va_get (D := (dC, dI)) (ci := 1) (v := .ref aP) (C := RX1) (T := TX1) (N := 6) hx hb hts (by decide +kernel) hown hK hP 0 rfl rfl 2 (by decide) (hts (.fieldLink RX1 19 "GlulxHeads$State" "blockPlace" "[I") (by decide +kernel)) (fun _ h9 => h9) rfl dX1_gapFor_15 ?_
    refine lv_iload hx hb dX1_gapFor_18 (lv_at hl 4 rfl) ?_
    refine wx_iald hx hb hK hP 2 1 rfl rfl (by omega) (by decide) dX1_gapFor_20 ?_
    refine wx_top (hPl i (by omega)) ?_
    have hbi := hbd i (by omega)
    refine lv_iload_n hx hb dX1_gapFor_21 rfl (lv_at hl 3 rfl) ?_
    refine lv_isub hx hb dX1_gapFor_22 ?_
    refine lv_iload_n hx hb dX1_gapFor_23 rfl (lv_at hl 1 rfl) ?_
    refine lv_icmp_lt (tgt := 30) hx hb dX1_gapFor_24 (by decide) (fun c_2 => ?_) (fun c_2 => ?_)
    · skip
      rw [Int32.lt_iff_toInt_lt, pk_sub_toInt (a := pl i) (b := pos) (by omega) (by omega), nI_toInt (n := n) (by omega)] at c_2
      refine lv_aload_n hx hb dX1_gapFor_30 rfl (lv_at hl 0 rfl) ?_
      refine lv_iload hx hb dX1_gapFor_31 (lv_at hl 4 rfl) ?_
      have hPc := hP.sub (ws' := [(oS, .inr (1, [.ref aB, .int (nI mz), .ref aP, .ref aL, .int (nI cn), .int (nI hs)])), (aB, .inl (cB, 8192, .inl g)), (aP, .inl (cI, 16, .inl P)), (aL, .inl (cI, 16, .inl L))]) [0, 1, 2, 3] rfl
      have hDc := hD.sub (ws' := [(oS, .inr (1, [.ref aB, .int (nI mz), .ref aP, .ref aL, .int (nI cn), .int (nI hs)])), (aB, .inl (cB, 8192, .inl g)), (aP, .inl (cI, 16, .inl P)), (aL, .inl (cI, 16, .inl L))]) [0, 1, 2, 3] (by decide) rfl
      have hFc := va_free (wc := [(oS, .inr (1, [.ref aB, .int (nI mz), .ref aP, .ref aL, .int (nI cn), .int (nI hs)])), (aB, .inl (cB, 8192, .inl g)), (aP, .inl (cI, 16, .inl P)), (aL, .inl (cI, 16, .inl L))]) hD hS hA [0, 1, 2, 3] rfl
      refine va_calli (va_runV (As := [.int (nI i)]) (rest := []) ⟨hx, hb, hml, hown, hts⟩ (c_X1_blockEnd l dC dI cB cI cJ H.size oS aB aP aL mz cn hs g P L i (by omega)) (cwV 1 hts gX1_gapFor_X1_blockEnd rfl rfl rfl (by decide +kernel) ⟨Nat.le_of_ble_eq_true rfl, Nat.le_of_ble_eq_true rfl⟩) ⟨wBlind, va_recv hK hPc (ci := 1) (q0 := 0) rfl rfl, wGo hK hPc hDc hN⟩ rfl rfl hl.1 rfl (lv_room (Nat.le_of_ble_eq_true rfl)) dX1_gapFor_33 ⟨show 0 ≤ 0 by decide, show 0 ≤ 0 by decide⟩) hS (fun q _ h => hFc q h) hFc (fun r_4 u t H1 locs ht hvm w_5 hB hz1 hk1 hS => ?_)
      clear u
      obtain ⟨hP1, hD1⟩ := hB
      rw [ht] at hP1
      try dsimp only at w_5
      obtain ⟨hP, hD⟩ := va_join (wr := []) (w1 := [(oS, .inr (1, [.ref aB, .int (nI mz), .ref aP, .ref aL, .int (nI cn), .int (nI hs)])), (aB, .inl (cB, 8192, .inl g)), (aP, .inl (cI, 16, .inl P)), (aL, .inl (cI, 16, .inl L))]) hP hD [0, 1, 2, 3] [] rfl rfl (by decide) (by decide) hk1 hFc hP1 hD1
      clear hPc hDc hFc hP1 hD1 hz1 hk1 hvm
      generalize H1 = H at hP hS ⊢
      have hP : va_P (dC, dI) vwCl [(oS, .inr (1, [.ref aB, .int (nI mz), .ref aP, .ref aL, .int (nI cn), .int (nI hs)])), (aB, .inl (cB, 8192, .inl g)), (aP, .inl (cI, 16, .inl P)), (aL, .inl (cI, 16, .inl L))] H := hP
      have hD : va_D A [(oS, .inr (1, [.ref aB, .int (nI mz), .ref aP, .ref aL, .int (nI cn), .int (nI hs)])), (aB, .inl (cB, 8192, .inl g)), (aP, .inl (cI, 16, .inl P)), (aL, .inl (cI, 16, .inl L))] := hD
      rw [hPl i (by omega), hLl i (by omega), nI_add] at w_5
      subst w_5
      refine lv_istore_n (lv' := [(3, .int (nI (pl i + ll i))), (0, .ref oS), (1, .int (nI n)), (2, .int (nI st0)), (4, .int (nI i))]) hx hb dX1_gapFor_36 rfl hl (by decide) rfl (fun ls hl => ?_)
      refine lv_iinc (v := nI (i + 1)) (lv' := [(4, .int (nI (i + 1))), (3, .int (nI (pl i + ll i))), (0, .ref oS), (1, .int (nI n)), (2, .int (nI st0))]) hx hb dX1_gapFor_37 hl (k := 4) rfl (by rw [show Int32.ofInt 1 = nI 1 by decide]; exact nI_add _ _) (by decide) rfl (fun ls hl => ?_)
      refine lv_goto (tgt := 5) hx hb dX1_gapFor_40 (by decide) ?_
      exact ih ((i + 1), (pl i + ll i)) _ _ _ (by omega) ⟨by omega, by omega, (by rw [heq, gapI_go (by omega) (by omega)]; rfl), hP.sub [0, 1, 2, 3] rfl, hD.sub [0, 1, 2, 3] (by decide) rfl, hS, lv_sub hl [2, 3, 4, 1, 0] rfl⟩
    · skip
      rw [Int32.lt_iff_toInt_lt, pk_sub_toInt (a := pl i) (b := pos) (by omega) (by omega), nI_toInt (n := n) (by omega)] at c_2
      refine lv_iload hx hb dX1_gapFor_27 (lv_at hl 4 rfl) ?_
      have hP9 := hP.sub (ws' := [(oS, .inr (1, [.ref aB, .int (nI mz), .ref aP, .ref aL, .int (nI cn), .int (nI hs)])), (aB, .inl (cB, 8192, .inl g)), (aP, .inl (cI, 16, .inl P)), (aL, .inl (cI, 16, .inl L))]) [0, 1, 2, 3] rfl
      have hD9 := hD.sub (ws' := [(oS, .inr (1, [.ref aB, .int (nI mz), .ref aP, .ref aL, .int (nI cn), .int (nI hs)])), (aB, .inl (cB, 8192, .inl g)), (aP, .inl (cI, 16, .inl P)), (aL, .inl (cI, 16, .inl L))]) [0, 1, 2, 3] (by decide) rfl
      exact W.iret (v := nI i) hx hb hr (fun t ht hW => ⟨⟨(nI i), (), rfl, (by rw [heq, gapI_hit (by omega) (by omega)]), by rw [ht]; exact hP9, hD9⟩, hS.F ht⟩) hS.2.2 dX1_gapFor_29
set_option maxHeartbeats 4000000 in
set_option maxRecDepth 100000 in
theorem c_X1_insertBlock (l : Launch) (dC : Nat → ClassId) (dI : Nat → Nat → Nat) (cB cI cJ : ClassId) (sz : Nat) (oS : Nat) (aB : Nat) (aP : Nat) (aL : Nat) (mz : Nat) (cn : Nat) (hs : Nat) (g : Nat → Int32) (P : Nat → Int32) (L : Nat → Int32) (ix : Nat) (x : Nat) (n : Nat) (hix : ix ≤ cn) (hcn : cn < 16) : Met l yX1_insertBlock wsX1_insertBlock ({ frames := 0, cells := 0, slots := 0, locals := 0 }) (va_Pc [.ref oS, .int (nI ix), .int (nI x), .int (nI n)] (wPre dC dI cB cI cJ sz [(oS, .inr (1, [.ref aB, .int (nI mz), .ref aP, .ref aL, .int (nI cn), .int (nI hs)])), (aB, .inl (cB, 8192, .inl g)), (aP, .inl (cI, 16, .inl P)), (aL, .inl (cI, 16, .inl L))])) (va_Qv (fun (u : (Nat → Int32) × (Nat → Int32)) => (∀ q, q ≤ cn → u.1 q = if q < ix then P q else if q = ix then nI x else P (q - 1)) ∧ (∀ q, q ≤ cn → u.2 q = if q < ix then L q else if q = ix then nI n else L (q - 1))) (fun (u : (Nat → Int32) × (Nat → Int32)) => wPost dC dI (va_A [(oS, .inr (1, [.ref aB, .int (nI mz), .ref aP, .ref aL, .int (nI cn), .int (nI hs)])), (aB, .inl (cB, 8192, .inl g)), (aP, .inl (cI, 16, .inl P)), (aL, .inl (cI, 16, .inl L))] sz) [(oS, .inr (1, [.ref aB, .int (nI mz), .ref aP, .ref aL, .int (nI (cn + 1)), .int (nI hs)])), (aB, .inl (cB, 8192, .inl g)), (aP, .inl (cI, 16, .inl u.1)), (aL, .inl (cI, 16, .inl u.2))]) (va_A [(oS, .inr (1, [.ref aB, .int (nI mz), .ref aP, .ref aL, .int (nI cn), .int (nI hs)])), (aB, .inl (cB, 8192, .inl g)), (aP, .inl (cI, 16, .inl P)), (aL, .inl (cI, 16, .inl L))] sz)) 0 0 (va_A [(oS, .inr (1, [.ref aB, .int (nI mz), .ref aP, .ref aL, .int (nI cn), .int (nI hs)])), (aB, .inl (cB, 8192, .inl g)), (aP, .inl (cI, 16, .inl P)), (aL, .inl (cI, 16, .inl L))] sz) := by
  refine Met.ofW (cc := cX1_insertBlock) (maxL := 5) (ret := none) (by decide) rfl ?_
  intro p e s m args below meth c s₁ B hml hv
  obtain ⟨rfl, hsz, hP, hK, hD0, hN⟩ := hv
  have hx := B.exec
  have hb := B.bytes
  have hr := B.returns
  have hts := atoms_spec (ws := wsX1_insertBlock) B.pre
  have hown : s.vm.findClass RX1 = some m.cls := findClass_of_methodNamed B.named
  have hlocks := B.notSynchronized
  subst hsz
  have hD := hD0.self (sz := s.heap.size)
  generalize hAe : va_A [(oS, .inr (1, [.ref aB, .int (nI mz), .ref aP, .ref aL, .int (nI cn), .int (nI hs)])), (aB, .inl (cB, 8192, .inl g)), (aP, .inl (cI, 16, .inl P)), (aL, .inl (cI, 16, .inl L))] s.heap.size = A at hD ⊢
  have hA : ∀ q : Nat, s.heap.size ≤ q → A q := fun q h => by rw [← hAe]; exact Or.inr h
  have hS : va_S A s.heap s.heap [] := va_S.rf
  have hP : va_P (dC, dI) vwCl [(oS, .inr (1, [.ref aB, .int (nI mz), .ref aP, .ref aL, .int (nI cn), .int (nI hs)])), (aB, .inl (cB, 8192, .inl g)), (aP, .inl (cI, 16, .inl P)), (aL, .inl (cI, 16, .inl L))] s.heap := hP
  have hl := lv_entry ([.ref oS, .int (nI ix), .int (nI x), .int (nI n)]) (n := 5) (Nat.le_of_ble_eq_true rfl)
  rw [lg_entry_eq]
  generalize (lg_sl ([.ref oS, .int (nI ix), .int (nI x), .int (nI n)]) ++ List.replicate (5 - (lg_sl ([.ref oS, .int (nI ix), .int (nI x), .int (nI n)])).length) Slot.unset).toArray = ls at hl ⊢
  have hl : lv_has ls 5 [(0, .ref oS), (1, .int (nI ix)), (2, .int (nI x)), (3, .int (nI n))] := hl
  refine lv_aload_n hx hb dX1_insertBlock_0 rfl (lv_at hl 0 rfl) ?_
  refine va_get (D := (dC, dI)) (ci := 1) (v := .int (nI cn)) (C := RX1) (T := TX1) (N := 6) hx hb hts (by decide +kernel) hown hK hP 0 rfl rfl 4 (by decide) (hts (.fieldLink RX1 26 "GlulxHeads$State" "blockCount" "I") (by decide +kernel)) (fun _ h9 => h9) rfl dX1_insertBlock_1 ?_
  refine lv_istore (lv' := [(4, .int (nI cn)), (0, .ref oS), (1, .int (nI ix)), (2, .int (nI x)), (3, .int (nI n))]) hx hb dX1_insertBlock_4 hl (by decide) rfl (fun ls hl => ?_)
  refine wx_loop (σ := Nat × (Nat → Int32) × (Nat → Int32)) (fun xq9 => xq9.1) (fun xq9 H locs ls => (ix ≤ xq9.1) ∧ (xq9.1 ≤ cn) ∧ (∀ q, q ≤ cn → xq9.2.1 q = if xq9.1 < q then P (q - 1) else P q) ∧ (∀ q, q ≤ cn → xq9.2.2 q = if xq9.1 < q then L (q - 1) else L q) ∧ va_P (dC, dI) vwCl [(oS, .inr (1, [.ref aB, .int (nI mz), .ref aP, .ref aL, .int (nI cn), .int (nI hs)])), (aB, .inl (cB, 8192, .inl g)), (aP, .inl (cI, 16, .inl xq9.2.1)), (aL, .inl (cI, 16, .inl xq9.2.2))] H ∧ va_D A [(oS, .inr (1, [.ref aB, .int (nI mz), .ref aP, .ref aL, .int (nI cn), .int (nI hs)])), (aB, .inl (cB, 8192, .inl g)), (aP, .inl (cI, 16, .inl xq9.2.1)), (aL, .inl (cI, 16, .inl xq9.2.2))] ∧ va_S A s.heap H locs ∧ lv_has ls 5 [(0, .ref oS), (1, .int (nI ix)), (2, .int (nI x)), (3, .int (nI n)), (4, .int (nI xq9.1))]) ?_ (cn, P, L) _ _ _ ⟨by omega, by omega, fun q hq => by rw [if_neg (by omega)], fun q hq => by rw [if_neg (by omega)], hP.sub [0, 1, 2, 3] rfl, hD.sub [0, 1, 2, 3] (by decide) rfl, hS, lv_sub hl [1, 2, 3, 4, 0] rfl⟩
  rintro ⟨i, P3, L3⟩ H locs ls ⟨hi1, hi2, hP3, hL3, hP, hD, hS, hl⟩ ih
  have hi1 : ix ≤ i := hi1
  have hi2 : i ≤ cn := hi2
  have hP3 : ∀ q, q ≤ cn → P3 q = if i < q then P (q - 1) else P q := hP3
  have hL3 : ∀ q, q ≤ cn → L3 q = if i < q then L (q - 1) else L q := hL3
  have hP : va_P (dC, dI) vwCl [(oS, .inr (1, [.ref aB, .int (nI mz), .ref aP, .ref aL, .int (nI cn), .int (nI hs)])), (aB, .inl (cB, 8192, .inl g)), (aP, .inl (cI, 16, .inl P3)), (aL, .inl (cI, 16, .inl L3))] H := hP
  have hD : va_D A [(oS, .inr (1, [.ref aB, .int (nI mz), .ref aP, .ref aL, .int (nI cn), .int (nI hs)])), (aB, .inl (cB, 8192, .inl g)), (aP, .inl (cI, 16, .inl P3)), (aL, .inl (cI, 16, .inl L3))] := hD
  have hl : lv_has ls 5 [(0, .ref oS), (1, .int (nI ix)), (2, .int (nI x)), (3, .int (nI n)), (4, .int (nI i))] := hl
  refine lv_iload hx hb dX1_insertBlock_6 (lv_at hl 4 rfl) ?_
  refine lv_iload_n hx hb dX1_insertBlock_8 rfl (lv_at hl 1 rfl) ?_
  refine wx_icmp_le (tgt := 50) hx hb dX1_insertBlock_9 (by decide) (by omega) (by omega) (fun c_1 => ?_) (fun c_1 => ?_)
  · skip
    refine lv_aload_n hx hb dX1_insertBlock_50 rfl (lv_at hl 0 rfl) ?_
    refine va_get (D := (dC, dI)) (ci := 1) (v := .ref aP) (C := RX1) (T := TX1) (N := 6) hx hb hts (by decide +kernel) hown hK hP 0 rfl rfl 2 (by decide) (hts (.fieldLink RX1 19 "GlulxHeads$State" "blockPlace" "[I") (by decide +kernel)) (fun _ h9 => h9) rfl dX1_insertBlock_51 ?_
    refine lv_iload_n hx hb dX1_insertBlock_54 rfl (lv_at hl 1 rfl) ?_
    refine lv_iload_n hx hb dX1_insertBlock_55 rfl (lv_at hl 2 rfl) ?_
    refine wx_iast hx hb hK hP hD hS 2 1 rfl rfl (by omega) (by decide) dX1_insertBlock_56 (fun H locs hP hD hS => ?_)
    have hP : va_P (dC, dI) vwCl [(oS, .inr (1, [.ref aB, .int (nI mz), .ref aP, .ref aL, .int (nI cn), .int (nI hs)])), (aB, .inl (cB, 8192, .inl g)), (aP, .inl (cI, 16, .inl (upd P3 ix (nI x)))), (aL, .inl (cI, 16, .inl L3))] H := hP
    have hD : va_D A [(oS, .inr (1, [.ref aB, .int (nI mz), .ref aP, .ref aL, .int (nI cn), .int (nI hs)])), (aB, .inl (cB, 8192, .inl g)), (aP, .inl (cI, 16, .inl (upd P3 ix (nI x)))), (aL, .inl (cI, 16, .inl L3))] := hD
    refine lv_aload_n hx hb dX1_insertBlock_57 rfl (lv_at hl 0 rfl) ?_
    refine va_get (D := (dC, dI)) (ci := 1) (v := .ref aL) (C := RX1) (T := TX1) (N := 6) hx hb hts (by decide +kernel) hown hK hP 0 rfl rfl 3 (by decide) (hts (.fieldLink RX1 23 "GlulxHeads$State" "blockLength" "[I") (by decide +kernel)) (fun _ h9 => h9) rfl dX1_insertBlock_58 ?_
    refine lv_iload_n hx hb dX1_insertBlock_61 rfl (lv_at hl 1 rfl) ?_
    refine lv_iload_n hx hb dX1_insertBlock_62 rfl (lv_at hl 3 rfl) ?_
    refine wx_iast hx hb hK hP hD hS 3 1 rfl rfl (by omega) (by decide) dX1_insertBlock_63 (fun H locs hP hD hS => ?_)
    have hP : va_P (dC, dI) vwCl [(oS, .inr (1, [.ref aB, .int (nI mz), .ref aP, .ref aL, .int (nI cn), .int (nI hs)])), (aB, .inl (cB, 8192, .inl g)), (aP, .inl (cI, 16, .inl (upd P3 ix (nI x)))), (aL, .inl (cI, 16, .inl (upd L3 ix (nI n))))] H := hP
    have hD : va_D A [(oS, .inr (1, [.ref aB, .int (nI mz), .ref aP, .ref aL, .int (nI cn), .int (nI hs)])), (aB, .inl (cB, 8192, .inl g)), (aP, .inl (cI, 16, .inl (upd P3 ix (nI x)))), (aL, .inl (cI, 16, .inl (upd L3 ix (nI n))))] := hD
    refine lv_aload_n hx hb dX1_insertBlock_64 rfl (lv_at hl 0 rfl) ?_
    refine lv_dup hx hb dX1_insertBlock_65 rfl ?_
    refine va_get (D := (dC, dI)) (ci := 1) (v := .int (nI cn)) (C := RX1) (T := TX1) (N := 6) hx hb hts (by decide +kernel) hown hK hP 0 rfl rfl 4 (by decide) (hts (.fieldLink RX1 26 "GlulxHeads$State" "blockCount" "I") (by decide +kernel)) (fun _ h9 => h9) rfl dX1_insertBlock_66 ?_
    refine lv_iconst (v := nI 1) hx hb dX1_insertBlock_69 (by decide) ?_
    refine wx_iadd hx hb dX1_insertBlock_70 ?_
    refine va_put (D := (dC, dI)) (ci := 1) (v := .int (nI (cn + 1))) (ty := .int) (C := RX1) (T := TX1) (N := 6) hx hb hts (by decide +kernel) tyX1 tyX1_ok nmX1 hown hK hP hD hS 0 rfl rfl 4 (by decide) (hts (.fieldLink RX1 26 "GlulxHeads$State" "blockCount" "I") (by decide +kernel)) (fun _ h9 => h9) rfl (by decide +kernel) rfl rfl (Nat.le_of_ble_eq_true rfl) dX1_insertBlock_71 (fun H locs hP hD hS => ?_)
    have hP : va_P (dC, dI) vwCl [(oS, .inr (1, [.ref aB, .int (nI mz), .ref aP, .ref aL, .int (nI (cn + 1)), .int (nI hs)])), (aB, .inl (cB, 8192, .inl g)), (aP, .inl (cI, 16, .inl (upd P3 ix (nI x)))), (aL, .inl (cI, 16, .inl (upd L3 ix (nI n))))] H := hP
    have hD : va_D A [(oS, .inr (1, [.ref aB, .int (nI mz), .ref aP, .ref aL, .int (nI (cn + 1)), .int (nI hs)])), (aB, .inl (cB, 8192, .inl g)), (aP, .inl (cI, 16, .inl (upd P3 ix (nI x)))), (aL, .inl (cI, 16, .inl (upd L3 ix (nI n))))] := hD
    have hP9 := hP.sub (ws' := [(oS, .inr (1, [.ref aB, .int (nI mz), .ref aP, .ref aL, .int (nI (cn + 1)), .int (nI hs)])), (aB, .inl (cB, 8192, .inl g)), (aP, .inl (cI, 16, .inl (upd P3 ix (nI x)))), (aL, .inl (cI, 16, .inl (upd L3 ix (nI n))))]) [0, 1, 2, 3] rfl
    have hD9 := hD.sub (ws' := [(oS, .inr (1, [.ref aB, .int (nI mz), .ref aP, .ref aL, .int (nI (cn + 1)), .int (nI hs)])), (aB, .inl (cB, 8192, .inl g)), (aP, .inl (cI, 16, .inl (upd P3 ix (nI x)))), (aL, .inl (cI, 16, .inl (upd L3 ix (nI n))))]) [0, 1, 2, 3] (by decide) rfl
    exact W.vret hx hb hr (fun t ht hW => ⟨⟨((upd P3 ix (nI x)), (upd L3 ix (nI n))), rfl, ⟨shift_in hix (by omega) hP3, shift_in hix (by omega) hL3⟩, by rw [ht]; exact hP9, hD9⟩, hS.F ht⟩) hS.2.2 dX1_insertBlock_74
  · skip
    refine lv_aload_n hx hb dX1_insertBlock_12 rfl (lv_at hl 0 rfl) ?_
    refine va_get (D := (dC, dI)) (ci := 1) (v := .ref aP) (C := RX1) (T := TX1) (N := 6) hx hb hts (by decide +kernel) hown hK hP 0 rfl rfl 2 (by decide) (hts (.fieldLink RX1 19 "GlulxHeads$State" "blockPlace" "[I") (by decide +kernel)) (fun _ h9 => h9) rfl dX1_insertBlock_13 ?_
    refine lv_iload hx hb dX1_insertBlock_16 (lv_at hl 4 rfl) ?_
    refine lv_aload_n hx hb dX1_insertBlock_18 rfl (lv_at hl 0 rfl) ?_
    refine va_get (D := (dC, dI)) (ci := 1) (v := .ref aP) (C := RX1) (T := TX1) (N := 6) hx hb hts (by decide +kernel) hown hK hP 0 rfl rfl 2 (by decide) (hts (.fieldLink RX1 19 "GlulxHeads$State" "blockPlace" "[I") (by decide +kernel)) (fun _ h9 => h9) rfl dX1_insertBlock_19 ?_
    refine lv_iload hx hb dX1_insertBlock_22 (lv_at hl 4 rfl) ?_
    refine lv_iconst (v := nI 1) hx hb dX1_insertBlock_24 (by decide) ?_
    refine wx_isub hx hb dX1_insertBlock_25 (by omega) ?_
    refine wx_iald hx hb hK hP 2 1 rfl rfl (by omega) (by decide) dX1_insertBlock_26 ?_
    refine wx_iast hx hb hK hP hD hS 2 1 rfl rfl (by omega) (by decide) dX1_insertBlock_27 (fun H locs hP hD hS => ?_)
    have hP : va_P (dC, dI) vwCl [(oS, .inr (1, [.ref aB, .int (nI mz), .ref aP, .ref aL, .int (nI cn), .int (nI hs)])), (aB, .inl (cB, 8192, .inl g)), (aP, .inl (cI, 16, .inl (upd P3 i (P3 (i - 1))))), (aL, .inl (cI, 16, .inl L3))] H := hP
    have hD : va_D A [(oS, .inr (1, [.ref aB, .int (nI mz), .ref aP, .ref aL, .int (nI cn), .int (nI hs)])), (aB, .inl (cB, 8192, .inl g)), (aP, .inl (cI, 16, .inl (upd P3 i (P3 (i - 1))))), (aL, .inl (cI, 16, .inl L3))] := hD
    refine lv_aload_n hx hb dX1_insertBlock_28 rfl (lv_at hl 0 rfl) ?_
    refine va_get (D := (dC, dI)) (ci := 1) (v := .ref aL) (C := RX1) (T := TX1) (N := 6) hx hb hts (by decide +kernel) hown hK hP 0 rfl rfl 3 (by decide) (hts (.fieldLink RX1 23 "GlulxHeads$State" "blockLength" "[I") (by decide +kernel)) (fun _ h9 => h9) rfl dX1_insertBlock_29 ?_
    refine lv_iload hx hb dX1_insertBlock_32 (lv_at hl 4 rfl) ?_
    refine lv_aload_n hx hb dX1_insertBlock_34 rfl (lv_at hl 0 rfl) ?_
    refine va_get (D := (dC, dI)) (ci := 1) (v := .ref aL) (C := RX1) (T := TX1) (N := 6) hx hb hts (by decide +kernel) hown hK hP 0 rfl rfl 3 (by decide) (hts (.fieldLink RX1 23 "GlulxHeads$State" "blockLength" "[I") (by decide +kernel)) (fun _ h9 => h9) rfl dX1_insertBlock_35 ?_
    refine lv_iload hx hb dX1_insertBlock_38 (lv_at hl 4 rfl) ?_
    refine lv_iconst (v := nI 1) hx hb dX1_insertBlock_40 (by decide) ?_
    refine wx_isub hx hb dX1_insertBlock_41 (by omega) ?_
    refine wx_iald hx hb hK hP 3 1 rfl rfl (by omega) (by decide) dX1_insertBlock_42 ?_
    refine wx_iast hx hb hK hP hD hS 3 1 rfl rfl (by omega) (by decide) dX1_insertBlock_43 (fun H locs hP hD hS => ?_)
    have hP : va_P (dC, dI) vwCl [(oS, .inr (1, [.ref aB, .int (nI mz), .ref aP, .ref aL, .int (nI cn), .int (nI hs)])), (aB, .inl (cB, 8192, .inl g)), (aP, .inl (cI, 16, .inl (upd P3 i (P3 (i - 1))))), (aL, .inl (cI, 16, .inl (upd L3 i (L3 (i - 1)))))] H := hP
    have hD : va_D A [(oS, .inr (1, [.ref aB, .int (nI mz), .ref aP, .ref aL, .int (nI cn), .int (nI hs)])), (aB, .inl (cB, 8192, .inl g)), (aP, .inl (cI, 16, .inl (upd P3 i (P3 (i - 1))))), (aL, .inl (cI, 16, .inl (upd L3 i (L3 (i - 1)))))] := hD
    refine lv_iinc (v := nI (i - 1)) (lv' := [(4, .int (nI (i - 1))), (0, .ref oS), (1, .int (nI ix)), (2, .int (nI x)), (3, .int (nI n))]) hx hb dX1_insertBlock_44 hl (k := 4) rfl (by rw [show Int32.ofInt (-1) = -1 by decide]; exact sb_m1 (by omega)) (by decide) rfl (fun ls hl => ?_)
    refine lv_goto (tgt := 6) hx hb dX1_insertBlock_47 (by decide) ?_
    exact ih ((i - 1), (upd P3 i (P3 (i - 1))), (upd L3 i (L3 (i - 1)))) _ _ _ (by omega) ⟨by omega, by omega, shift_up hi1 hi2 (by omega) hP3, shift_up hi1 hi2 (by omega) hL3, hP.sub [0, 1, 2, 3] rfl, hD.sub [0, 1, 2, 3] (by decide) rfl, hS, lv_sub hl [1, 2, 3, 4, 0] rfl⟩
set_option maxHeartbeats 4000000 in
set_option maxRecDepth 100000 in
theorem c_X1_blockIndexAt (l : Launch) (dC : Nat → ClassId) (dI : Nat → Nat → Nat) (cB cI cJ : ClassId) (sz : Nat) (oS : Nat) (aB : Nat) (aP : Nat) (aL : Nat) (mz : Nat) (cn : Nat) (hs : Nat) (g : Nat → Int32) (P : Nat → Int32) (L : Nat → Int32) (a : Int32) (hcn : cn ≤ 16) : Met l yX1_blockIndexAt wsX1_blockIndexAt ({ frames := 0, cells := 0, slots := 0, locals := 0 }) (va_Pc [.ref oS, .int a] (wPre dC dI cB cI cJ sz [(oS, .inr (1, [.ref aB, .int (nI mz), .ref aP, .ref aL, .int (nI cn), .int (nI hs)])), (aB, .inl (cB, 8192, .inl g)), (aP, .inl (cI, 16, .inl P)), (aL, .inl (cI, 16, .inl L))])) (va_Qi (fun (r : Int32) (u : Unit) => (∃ i, i < cn ∧ r = nI i ∧ P i = a ∧ ∀ q, q < i → ¬ P q = a) ∨ (r = -1 ∧ ∀ q, q < cn → ¬ P q = a)) (fun (u : Unit) => wPost dC dI (va_A [(oS, .inr (1, [.ref aB, .int (nI mz), .ref aP, .ref aL, .int (nI cn), .int (nI hs)])), (aB, .inl (cB, 8192, .inl g)), (aP, .inl (cI, 16, .inl P)), (aL, .inl (cI, 16, .inl L))] sz) [(oS, .inr (1, [.ref aB, .int (nI mz), .ref aP, .ref aL, .int (nI cn), .int (nI hs)])), (aB, .inl (cB, 8192, .inl g)), (aP, .inl (cI, 16, .inl P)), (aL, .inl (cI, 16, .inl L))]) (va_A [(oS, .inr (1, [.ref aB, .int (nI mz), .ref aP, .ref aL, .int (nI cn), .int (nI hs)])), (aB, .inl (cB, 8192, .inl g)), (aP, .inl (cI, 16, .inl P)), (aL, .inl (cI, 16, .inl L))] sz)) 0 0 (va_A [(oS, .inr (1, [.ref aB, .int (nI mz), .ref aP, .ref aL, .int (nI cn), .int (nI hs)])), (aB, .inl (cB, 8192, .inl g)), (aP, .inl (cI, 16, .inl P)), (aL, .inl (cI, 16, .inl L))] sz) := by
  refine Met.ofW (cc := cX1_blockIndexAt) (maxL := 3) (ret := (some .int)) (by decide) rfl ?_
  intro p e s m args below meth c s₁ B hml hv
  obtain ⟨rfl, hsz, hP, hK, hD0, hN⟩ := hv
  have hx := B.exec
  have hb := B.bytes
  have hr := B.returns
  have hts := atoms_spec (ws := wsX1_blockIndexAt) B.pre
  have hown : s.vm.findClass RX1 = some m.cls := findClass_of_methodNamed B.named
  have hlocks := B.notSynchronized
  subst hsz
  have hD := hD0.self (sz := s.heap.size)
  generalize hAe : va_A [(oS, .inr (1, [.ref aB, .int (nI mz), .ref aP, .ref aL, .int (nI cn), .int (nI hs)])), (aB, .inl (cB, 8192, .inl g)), (aP, .inl (cI, 16, .inl P)), (aL, .inl (cI, 16, .inl L))] s.heap.size = A at hD ⊢
  have hA : ∀ q : Nat, s.heap.size ≤ q → A q := fun q h => by rw [← hAe]; exact Or.inr h
  have hS : va_S A s.heap s.heap [] := va_S.rf
  have hP : va_P (dC, dI) vwCl [(oS, .inr (1, [.ref aB, .int (nI mz), .ref aP, .ref aL, .int (nI cn), .int (nI hs)])), (aB, .inl (cB, 8192, .inl g)), (aP, .inl (cI, 16, .inl P)), (aL, .inl (cI, 16, .inl L))] s.heap := hP
  have hl := lv_entry ([.ref oS, .int a]) (n := 3) (Nat.le_of_ble_eq_true rfl)
  rw [lg_entry_eq]
  generalize (lg_sl ([.ref oS, .int a]) ++ List.replicate (3 - (lg_sl ([.ref oS, .int a])).length) Slot.unset).toArray = ls at hl ⊢
  have hl : lv_has ls 3 [(0, .ref oS), (1, .int a)] := hl
  refine lv_iconst (v := nI 0) hx hb dX1_blockIndexAt_0 (by decide) ?_
  refine lv_istore_n (lv' := [(2, .int (nI 0)), (0, .ref oS), (1, .int a)]) hx hb dX1_blockIndexAt_1 rfl hl (by decide) rfl (fun ls hl => ?_)
  refine wx_loop (σ := Nat) (fun xq9 => cn - xq9) (fun xq9 H locs ls => (xq9 ≤ cn) ∧ (∀ q, q < xq9 → ¬ P q = a) ∧ va_P (dC, dI) vwCl [(oS, .inr (1, [.ref aB, .int (nI mz), .ref aP, .ref aL, .int (nI cn), .int (nI hs)])), (aB, .inl (cB, 8192, .inl g)), (aP, .inl (cI, 16, .inl P)), (aL, .inl (cI, 16, .inl L))] H ∧ va_D A [(oS, .inr (1, [.ref aB, .int (nI mz), .ref aP, .ref aL, .int (nI cn), .int (nI hs)])), (aB, .inl (cB, 8192, .inl g)), (aP, .inl (cI, 16, .inl P)), (aL, .inl (cI, 16, .inl L))] ∧ va_S A s.heap H locs ∧ lv_has ls 3 [(0, .ref oS), (1, .int a), (2, .int (nI xq9))]) ?_ (0) _ _ _ ⟨by omega, fun q hq => absurd hq (Nat.not_lt_zero _), hP.sub [0, 1, 2, 3] rfl, hD.sub [0, 1, 2, 3] (by decide) rfl, hS, lv_sub hl [1, 2, 0] rfl⟩
  rintro i H locs ls ⟨hi, hq, hP, hD, hS, hl⟩ ih
  have hi : i ≤ cn := hi
  have hq : ∀ q, q < i → ¬ P q = a := hq
  have hP : va_P (dC, dI) vwCl [(oS, .inr (1, [.ref aB, .int (nI mz), .ref aP, .ref aL, .int (nI cn), .int (nI hs)])), (aB, .inl (cB, 8192, .inl g)), (aP, .inl (cI, 16, .inl P)), (aL, .inl (cI, 16, .inl L))] H := hP
  have hD : va_D A [(oS, .inr (1, [.ref aB, .int (nI mz), .ref aP, .ref aL, .int (nI cn), .int (nI hs)])), (aB, .inl (cB, 8192, .inl g)), (aP, .inl (cI, 16, .inl P)), (aL, .inl (cI, 16, .inl L))] := hD
  have hl : lv_has ls 3 [(0, .ref oS), (1, .int a), (2, .int (nI i))] := hl
  refine lv_iload_n hx hb dX1_blockIndexAt_2 rfl (lv_at hl 2 rfl) ?_
  refine lv_aload_n hx hb dX1_blockIndexAt_3 rfl (lv_at hl 0 rfl) ?_
  refine va_get (D := (dC, dI)) (ci := 1) (v := .int (nI cn)) (C := RX1) (T := TX1) (N := 6) hx hb hts (by decide +kernel) hown hK hP 0 rfl rfl 4 (by decide) (hts (.fieldLink RX1 26 "GlulxHeads$State" "blockCount" "I") (by decide +kernel)) (fun _ h9 => h9) rfl dX1_blockIndexAt_4 ?_
  refine wx_icmp_ge (tgt := 28) hx hb dX1_blockIndexAt_7 (by decide) (by omega) (by omega) (fun c_1 => ?_) (fun c_1 => ?_)
  · skip
    refine lv_iconst (v := (-1)) hx hb dX1_blockIndexAt_28 (by decide) ?_
    have hP9 := hP.sub (ws' := [(oS, .inr (1, [.ref aB, .int (nI mz), .ref aP, .ref aL, .int (nI cn), .int (nI hs)])), (aB, .inl (cB, 8192, .inl g)), (aP, .inl (cI, 16, .inl P)), (aL, .inl (cI, 16, .inl L))]) [0, 1, 2, 3] rfl
    have hD9 := hD.sub (ws' := [(oS, .inr (1, [.ref aB, .int (nI mz), .ref aP, .ref aL, .int (nI cn), .int (nI hs)])), (aB, .inl (cB, 8192, .inl g)), (aP, .inl (cI, 16, .inl P)), (aL, .inl (cI, 16, .inl L))]) [0, 1, 2, 3] (by decide) rfl
    exact W.iret (v := (-1)) hx hb hr (fun t ht hW => ⟨⟨(-1), (), rfl, Or.inr ⟨rfl, fun q h => hq q (by omega)⟩, by rw [ht]; exact hP9, hD9⟩, hS.F ht⟩) hS.2.2 dX1_blockIndexAt_29
  · skip
    refine lv_aload_n hx hb dX1_blockIndexAt_10 rfl (lv_at hl 0 rfl) ?_
    refine va_get (D := (dC, dI)) (ci := 1) (v := .ref aP) (C := RX1) (T := TX1) (N := 6) hx hb hts (by decide +kernel) hown hK hP 0 rfl rfl 2 (by decide) (hts (.fieldLink RX1 19 "GlulxHeads$State" "blockPlace" "[I") (by decide +kernel)) (fun _ h9 => h9) rfl dX1_blockIndexAt_11 ?_
    refine lv_iload_n hx hb dX1_blockIndexAt_14 rfl (lv_at hl 2 rfl) ?_
    refine wx_iald hx hb hK hP 2 1 rfl rfl (by omega) (by decide) dX1_blockIndexAt_15 ?_
    refine lv_iload_n hx hb dX1_blockIndexAt_16 rfl (lv_at hl 1 rfl) ?_
    refine lv_icmp_ne (tgt := 22) hx hb dX1_blockIndexAt_17 (by decide) (fun c_2 => ?_) (fun c_2 => ?_)
    · skip
      refine lv_iinc (v := nI (i + 1)) (lv' := [(2, .int (nI (i + 1))), (0, .ref oS), (1, .int a)]) hx hb dX1_blockIndexAt_22 hl (k := 2) rfl (by rw [show Int32.ofInt 1 = nI 1 by decide]; exact nI_add _ _) (by decide) rfl (fun ls hl => ?_)
      refine lv_goto (tgt := 2) hx hb dX1_blockIndexAt_25 (by decide) ?_
      exact ih ((i + 1)) _ _ _ (by omega) ⟨by omega, lt_s hq (by assumption), hP.sub [0, 1, 2, 3] rfl, hD.sub [0, 1, 2, 3] (by decide) rfl, hS, lv_sub hl [1, 2, 0] rfl⟩
    · skip
      refine lv_iload_n hx hb dX1_blockIndexAt_20 rfl (lv_at hl 2 rfl) ?_
      have hP9 := hP.sub (ws' := [(oS, .inr (1, [.ref aB, .int (nI mz), .ref aP, .ref aL, .int (nI cn), .int (nI hs)])), (aB, .inl (cB, 8192, .inl g)), (aP, .inl (cI, 16, .inl P)), (aL, .inl (cI, 16, .inl L))]) [0, 1, 2, 3] rfl
      have hD9 := hD.sub (ws' := [(oS, .inr (1, [.ref aB, .int (nI mz), .ref aP, .ref aL, .int (nI cn), .int (nI hs)])), (aB, .inl (cB, 8192, .inl g)), (aP, .inl (cI, 16, .inl P)), (aL, .inl (cI, 16, .inl L))]) [0, 1, 2, 3] (by decide) rfl
      exact W.iret (v := nI i) hx hb hr (fun t ht hW => ⟨⟨(nI i), (), rfl, Or.inl ⟨i, by omega, rfl, c_2, hq⟩, by rw [ht]; exact hP9, hD9⟩, hS.F ht⟩) hS.2.2 dX1_blockIndexAt_21
set_option maxHeartbeats 4000000 in
set_option maxRecDepth 100000 in
theorem c_X1_removeBlock (l : Launch) (dC : Nat → ClassId) (dI : Nat → Nat → Nat) (cB cI cJ : ClassId) (sz : Nat) (oS : Nat) (aB : Nat) (aP : Nat) (aL : Nat) (mz : Nat) (cn : Nat) (hs : Nat) (g : Nat → Int32) (P : Nat → Int32) (L : Nat → Int32) (mem : Nat → Nat) (ix : Nat) (hM : mOk g mz mem) (hix : ix < cn) (hcn : cn ≤ 16) (hhs : hs ≤ 8192) : Met l yX1_removeBlock wsX1_removeBlock ({ frames := 1, cells := 0, slots := 0, locals := 22 }) (va_Pc [.ref oS, .int (nI ix)] (wPre dC dI cB cI cJ sz [(oS, .inr (1, [.ref aB, .int (nI mz), .ref aP, .ref aL, .int (nI cn), .int (nI hs)])), (aB, .inl (cB, 8192, .inl g)), (aP, .inl (cI, 16, .inl P)), (aL, .inl (cI, 16, .inl L))])) (va_Qi (fun (r : Int32) (u : (Nat → Int32) × Nat × Nat × (Nat → Int32) × (Nat → Int32)) => r = L ix ∧ u.2.1 = (if cn = 1 then hs else mz) ∧ u.2.2.1 = (if cn = 1 then 0 else hs) ∧ mOk u.1 u.2.1 (if cn = 1 then cutM mem hs else mem) ∧ (∀ q, q < cn - 1 → u.2.2.2.1 q = if q < ix then P q else P (q + 1)) ∧ (∀ q, q < cn - 1 → u.2.2.2.2 q = if q < ix then L q else L (q + 1))) (fun (u : (Nat → Int32) × Nat × Nat × (Nat → Int32) × (Nat → Int32)) => wPost dC dI (va_A [(oS, .inr (1, [.ref aB, .int (nI mz), .ref aP, .ref aL, .int (nI cn), .int (nI hs)])), (aB, .inl (cB, 8192, .inl g)), (aP, .inl (cI, 16, .inl P)), (aL, .inl (cI, 16, .inl L))] sz) [(oS, .inr (1, [.ref aB, .int (nI u.2.1), .ref aP, .ref aL, .int (nI (cn - 1)), .int (nI u.2.2.1)])), (aB, .inl (cB, 8192, .inl u.1)), (aP, .inl (cI, 16, .inl u.2.2.2.1)), (aL, .inl (cI, 16, .inl u.2.2.2.2))]) (va_A [(oS, .inr (1, [.ref aB, .int (nI mz), .ref aP, .ref aL, .int (nI cn), .int (nI hs)])), (aB, .inl (cB, 8192, .inl g)), (aP, .inl (cI, 16, .inl P)), (aL, .inl (cI, 16, .inl L))] sz)) 0 0 (va_A [(oS, .inr (1, [.ref aB, .int (nI mz), .ref aP, .ref aL, .int (nI cn), .int (nI hs)])), (aB, .inl (cB, 8192, .inl g)), (aP, .inl (cI, 16, .inl P)), (aL, .inl (cI, 16, .inl L))] sz) := by
  refine Met.ofW (cc := cX1_removeBlock) (maxL := 4) (ret := (some .int)) (by decide) rfl ?_
  intro p e s m args below meth c s₁ B hml hv
  obtain ⟨rfl, hsz, hP, hK, hD0, hN⟩ := hv
  have hx := B.exec
  have hb := B.bytes
  have hr := B.returns
  have hts := atoms_spec (ws := wsX1_removeBlock) B.pre
  have hown : s.vm.findClass RX1 = some m.cls := findClass_of_methodNamed B.named
  have hlocks := B.notSynchronized
  subst hsz
  have hD := hD0.self (sz := s.heap.size)
  generalize hAe : va_A [(oS, .inr (1, [.ref aB, .int (nI mz), .ref aP, .ref aL, .int (nI cn), .int (nI hs)])), (aB, .inl (cB, 8192, .inl g)), (aP, .inl (cI, 16, .inl P)), (aL, .inl (cI, 16, .inl L))] s.heap.size = A at hD ⊢
  have hA : ∀ q : Nat, s.heap.size ≤ q → A q := fun q h => by rw [← hAe]; exact Or.inr h
  have hS : va_S A s.heap s.heap [] := va_S.rf
  have hP : va_P (dC, dI) vwCl [(oS, .inr (1, [.ref aB, .int (nI mz), .ref aP, .ref aL, .int (nI cn), .int (nI hs)])), (aB, .inl (cB, 8192, .inl g)), (aP, .inl (cI, 16, .inl P)), (aL, .inl (cI, 16, .inl L))] s.heap := hP
  have hl := lv_entry ([.ref oS, .int (nI ix)]) (n := 4) (Nat.le_of_ble_eq_true rfl)
  rw [lg_entry_eq]
  generalize (lg_sl ([.ref oS, .int (nI ix)]) ++ List.replicate (4 - (lg_sl ([.ref oS, .int (nI ix)])).length) Slot.unset).toArray = ls at hl ⊢
  have hl : lv_has ls 4 [(0, .ref oS), (1, .int (nI ix))] := hl
  have hM1 := hM.1
  have hM2 := hM.2.1
  refine lv_aload_n hx hb dX1_removeBlock_0 rfl (lv_at hl 0 rfl) ?_
  refine va_get (D := (dC, dI)) (ci := 1) (v := .ref aL) (C := RX1) (T := TX1) (N := 6) hx hb hts (by decide +kernel) hown hK hP 0 rfl rfl 3 (by decide) (hts (.fieldLink RX1 23 "GlulxHeads$State" "blockLength" "[I") (by decide +kernel)) (fun _ h9 => h9) rfl dX1_removeBlock_1 ?_
  refine lv_iload_n hx hb dX1_removeBlock_4 rfl (lv_at hl 1 rfl) ?_
  refine wx_iald hx hb hK hP 3 1 rfl rfl (by omega) (by decide) dX1_removeBlock_5 ?_
  refine lv_istore_n (lv' := [(2, .int (L ix)), (0, .ref oS), (1, .int (nI ix))]) hx hb dX1_removeBlock_6 rfl hl (by decide) rfl (fun ls hl => ?_)
  refine lv_aload_n hx hb dX1_removeBlock_7 rfl (lv_at hl 1 rfl) ?_
  refine lv_dup hx hb dX1_removeBlock_8 rfl ?_
  refine va_get (D := (dC, dI)) (ci := 1) (v := .int (nI cn)) (C := RX1) (T := TX1) (N := 6) hx hb hts (by decide +kernel) hown hK hP 0 rfl rfl 4 (by decide) (hts (.fieldLink RX1 26 "GlulxHeads$State" "blockCount" "I") (by decide +kernel)) (fun _ h9 => h9) rfl dX1_removeBlock_9 ?_
  refine lv_iconst (v := nI 1) hx hb dX1_removeBlock_12 (by decide) ?_
  refine wx_isub hx hb dX1_removeBlock_13 (by omega) ?_
  refine va_put (D := (dC, dI)) (ci := 1) (v := .int (nI (cn - 1))) (ty := .int) (C := RX1) (T := TX1) (N := 6) hx hb hts (by decide +kernel) tyX1 tyX1_ok nmX1 hown hK hP hD hS 0 rfl rfl 4 (by decide) (hts (.fieldLink RX1 26 "GlulxHeads$State" "blockCount" "I") (by decide +kernel)) (fun _ h9 => h9) rfl (by decide +kernel) rfl rfl (Nat.le_of_ble_eq_true rfl) dX1_removeBlock_14 (fun H locs hP hD hS => ?_)
  have hP : va_P (dC, dI) vwCl [(oS, .inr (1, [.ref aB, .int (nI mz), .ref aP, .ref aL, .int (nI (cn - 1)), .int (nI hs)])), (aB, .inl (cB, 8192, .inl g)), (aP, .inl (cI, 16, .inl P)), (aL, .inl (cI, 16, .inl L))] H := hP
  have hD : va_D A [(oS, .inr (1, [.ref aB, .int (nI mz), .ref aP, .ref aL, .int (nI (cn - 1)), .int (nI hs)])), (aB, .inl (cB, 8192, .inl g)), (aP, .inl (cI, 16, .inl P)), (aL, .inl (cI, 16, .inl L))] := hD
  refine lv_iload_n hx hb dX1_removeBlock_17 rfl (lv_at hl 2 rfl) ?_
  refine lv_istore_n (lv' := [(3, .int (nI ix)), (2, .int (L ix)), (0, .ref oS), (1, .int (nI ix))]) hx hb dX1_removeBlock_18 rfl hl (by decide) rfl (fun ls hl => ?_)
  refine wx_loop (σ := Nat × (Nat → Int32) × (Nat → Int32)) (fun xq9 => cn - xq9.1) (fun xq9 H locs ls => (ix ≤ xq9.1) ∧ (xq9.1 ≤ cn - 1) ∧ (∀ q, q < 16 → xq9.2.1 q = if ix ≤ q ∧ q < xq9.1 then P (q + 1) else P q) ∧ (∀ q, q < 16 → xq9.2.2 q = if ix ≤ q ∧ q < xq9.1 then L (q + 1) else L q) ∧ va_P (dC, dI) vwCl [(oS, .inr (1, [.ref aB, .int (nI mz), .ref aP, .ref aL, .int (nI (cn - 1)), .int (nI hs)])), (aB, .inl (cB, 8192, .inl g)), (aP, .inl (cI, 16, .inl xq9.2.1)), (aL, .inl (cI, 16, .inl xq9.2.2))] H ∧ va_D A [(oS, .inr (1, [.ref aB, .int (nI mz), .ref aP, .ref aL, .int (nI (cn - 1)), .int (nI hs)])), (aB, .inl (cB, 8192, .inl g)), (aP, .inl (cI, 16, .inl xq9.2.1)), (aL, .inl (cI, 16, .inl xq9.2.2))] ∧ va_S A s.heap H locs ∧ lv_has ls 4 [(0, .ref oS), (1, .int (nI ix)), (2, .int (L ix)), (3, .int (nI xq9.1))]) ?_ (ix, P, L) _ _ _ ⟨by omega, by omega, fun q hq => by rw [if_neg (by omega)], fun q hq => by rw [if_neg (by omega)], hP.sub [0, 1, 2, 3] rfl, hD.sub [0, 1, 2, 3] (by decide) rfl, hS, lv_sub hl [2, 3, 1, 0] rfl⟩
  rintro ⟨i, P3, L3⟩ H locs ls ⟨hi1, hi2, hP3, hL3, hP, hD, hS, hl⟩ ih
  have hi1 : ix ≤ i := hi1
  have hi2 : i ≤ cn - 1 := hi2
  have hP3 : ∀ q, q < 16 → P3 q = if ix ≤ q ∧ q < i then P (q + 1) else P q := hP3
  have hL3 : ∀ q, q < 16 → L3 q = if ix ≤ q ∧ q < i then L (q + 1) else L q := hL3
  have hP : va_P (dC, dI) vwCl [(oS, .inr (1, [.ref aB, .int (nI mz), .ref aP, .ref aL, .int (nI (cn - 1)), .int (nI hs)])), (aB, .inl (cB, 8192, .inl g)), (aP, .inl (cI, 16, .inl P3)), (aL, .inl (cI, 16, .inl L3))] H := hP
  have hD : va_D A [(oS, .inr (1, [.ref aB, .int (nI mz), .ref aP, .ref aL, .int (nI (cn - 1)), .int (nI hs)])), (aB, .inl (cB, 8192, .inl g)), (aP, .inl (cI, 16, .inl P3)), (aL, .inl (cI, 16, .inl L3))] := hD
  have hl : lv_has ls 4 [(0, .ref oS), (1, .int (nI ix)), (2, .int (L ix)), (3, .int (nI i))] := hl
  refine lv_iload_n hx hb dX1_removeBlock_19 rfl (lv_at hl 3 rfl) ?_
  refine lv_aload_n hx hb dX1_removeBlock_20 rfl (lv_at hl 0 rfl) ?_
  refine va_get (D := (dC, dI)) (ci := 1) (v := .int (nI (cn - 1))) (C := RX1) (T := TX1) (N := 6) hx hb hts (by decide +kernel) hown hK hP 0 rfl rfl 4 (by decide) (hts (.fieldLink RX1 26 "GlulxHeads$State" "blockCount" "I") (by decide +kernel)) (fun _ h9 => h9) rfl dX1_removeBlock_21 ?_
  refine wx_icmp_ge (tgt := 61) hx hb dX1_removeBlock_24 (by decide) (by omega) (by omega) (fun c_1 => ?_) (fun c_1 => ?_)
  · skip
    refine lv_aload_n hx hb dX1_removeBlock_61 rfl (lv_at hl 0 rfl) ?_
    refine va_get (D := (dC, dI)) (ci := 1) (v := .int (nI (cn - 1))) (C := RX1) (T := TX1) (N := 6) hx hb hts (by decide +kernel) hown hK hP 0 rfl rfl 4 (by decide) (hts (.fieldLink RX1 26 "GlulxHeads$State" "blockCount" "I") (by decide +kernel)) (fun _ h9 => h9) rfl dX1_removeBlock_62 ?_
    refine wx_if_ne (tgt := 81) hx hb dX1_removeBlock_65 (by decide) (by omega) (fun c_2 => ?_) (fun c_2 => ?_)
    · skip
      refine lv_iload_n hx hb dX1_removeBlock_81 rfl (lv_at hl 2 rfl) ?_
      have hP9 := hP.sub (ws' := [(oS, .inr (1, [.ref aB, .int (nI mz), .ref aP, .ref aL, .int (nI (cn - 1)), .int (nI hs)])), (aB, .inl (cB, 8192, .inl g)), (aP, .inl (cI, 16, .inl P3)), (aL, .inl (cI, 16, .inl L3))]) [0, 1, 2, 3] rfl
      have hD9 := hD.sub (ws' := [(oS, .inr (1, [.ref aB, .int (nI mz), .ref aP, .ref aL, .int (nI (cn - 1)), .int (nI hs)])), (aB, .inl (cB, 8192, .inl g)), (aP, .inl (cI, 16, .inl P3)), (aL, .inl (cI, 16, .inl L3))]) [0, 1, 2, 3] (by decide) rfl
      exact W.iret (v := L ix) hx hb hr (fun t ht hW => ⟨⟨(L ix), (g, mz, hs, P3, L3), rfl, ⟨rfl, by rw [if_neg (show ¬ cn = 1 by omega)], by rw [if_neg (show ¬ cn = 1 by omega)], by rw [if_neg (show ¬ cn = 1 by omega)]; exact hM, shift_out (by omega) hcn hP3, shift_out (by omega) hcn hL3⟩, by rw [ht]; exact hP9, hD9⟩, hS.F ht⟩) hS.2.2 dX1_removeBlock_82
    · skip
      refine lv_aload_n hx hb dX1_removeBlock_68 rfl (lv_at hl 0 rfl) ?_
      refine lv_aload_n hx hb dX1_removeBlock_69 rfl (lv_at hl 0 rfl) ?_
      refine va_get (D := (dC, dI)) (ci := 1) (v := .int (nI hs)) (C := RX1) (T := TX1) (N := 6) hx hb hts (by decide +kernel) hown hK hP 0 rfl rfl 5 (by decide) (hts (.fieldLink RX1 29 "GlulxHeads$State" "heapStart" "I") (by decide +kernel)) (fun _ h9 => h9) rfl dX1_removeBlock_70 ?_
      have hPc := hP.sub (ws' := [(oS, .inr (1, [.ref aB, .int (nI mz), .ref aP, .ref aL, .int (nI (cn - 1)), .int (nI hs)])), (aB, .inl (cB, 8192, .inl g)), (aP, .inl (cI, 16, .inl P3)), (aL, .inl (cI, 16, .inl L3))]) [0, 1, 2, 3] rfl
      have hDc := hD.sub (ws' := [(oS, .inr (1, [.ref aB, .int (nI mz), .ref aP, .ref aL, .int (nI (cn - 1)), .int (nI hs)])), (aB, .inl (cB, 8192, .inl g)), (aP, .inl (cI, 16, .inl P3)), (aL, .inl (cI, 16, .inl L3))]) [0, 1, 2, 3] (by decide) rfl
      have hFc := va_free (wc := [(oS, .inr (1, [.ref aB, .int (nI mz), .ref aP, .ref aL, .int (nI (cn - 1)), .int (nI hs)])), (aB, .inl (cB, 8192, .inl g)), (aP, .inl (cI, 16, .inl P3)), (aL, .inl (cI, 16, .inl L3))]) hD hS hA [0, 1, 2, 3] rfl
      refine va_callv (va_runV (As := [.int (nI hs)]) (rest := []) ⟨hx, hb, hml, hown, hts⟩ (c_X1_setSize l dC dI cB cI cJ H.size oS aB aP aL mz (cn - 1) hs g P3 L3 mem hs hM (by omega)) (cwV 1 hts gX1_removeBlock_X1_setSize rfl rfl rfl (by decide +kernel) ⟨Nat.le_of_ble_eq_true rfl, Nat.le_of_ble_eq_true rfl⟩) ⟨wBlind, va_recv hK hPc (ci := 1) (q0 := 0) rfl rfl, wGo hK hPc hDc hN⟩ rfl rfl hl.1 rfl (lv_room (Nat.le_of_ble_eq_true rfl)) dX1_removeBlock_73 ⟨show 0 ≤ 0 by decide, show 0 ≤ 0 by decide⟩) hS (fun q _ h => hFc q h) hFc (fun u t H1 locs ht hvm w_5 hB hz1 hk1 hS => ?_)
      obtain ⟨g2_6, rfl⟩ : ∃ z, z = u := ⟨_, rfl⟩
      obtain ⟨hP1, hD1⟩ := hB
      rw [ht] at hP1
      try dsimp only at w_5
      obtain ⟨hP, hD⟩ := va_join (wr := []) (w1 := [(oS, .inr (1, [.ref aB, .int (nI hs), .ref aP, .ref aL, .int (nI (cn - 1)), .int (nI hs)])), (aB, .inl (cB, 8192, .inl g2_6)), (aP, .inl (cI, 16, .inl P3)), (aL, .inl (cI, 16, .inl L3))]) hP hD [0, 1, 2, 3] [] rfl rfl (by decide) (by decide) hk1 hFc hP1 hD1
      clear hPc hDc hFc hP1 hD1 hz1 hk1 hvm
      generalize H1 = H at hP hS ⊢
      have hP : va_P (dC, dI) vwCl [(oS, .inr (1, [.ref aB, .int (nI hs), .ref aP, .ref aL, .int (nI (cn - 1)), .int (nI hs)])), (aB, .inl (cB, 8192, .inl g2_6)), (aP, .inl (cI, 16, .inl P3)), (aL, .inl (cI, 16, .inl L3))] H := hP
      have hD : va_D A [(oS, .inr (1, [.ref aB, .int (nI hs), .ref aP, .ref aL, .int (nI (cn - 1)), .int (nI hs)])), (aB, .inl (cB, 8192, .inl g2_6)), (aP, .inl (cI, 16, .inl P3)), (aL, .inl (cI, 16, .inl L3))] := hD
      refine lv_aload_n hx hb dX1_removeBlock_76 rfl (lv_at hl 0 rfl) ?_
      refine lv_iconst (v := nI 0) hx hb dX1_removeBlock_77 (by decide) ?_
      refine va_put (D := (dC, dI)) (ci := 1) (v := .int (nI 0)) (ty := .int) (C := RX1) (T := TX1) (N := 6) hx hb hts (by decide +kernel) tyX1 tyX1_ok nmX1 hown hK hP hD hS 0 rfl rfl 5 (by decide) (hts (.fieldLink RX1 29 "GlulxHeads$State" "heapStart" "I") (by decide +kernel)) (fun _ h9 => h9) rfl (by decide +kernel) rfl rfl (Nat.le_of_ble_eq_true rfl) dX1_removeBlock_78 (fun H locs hP hD hS => ?_)
      have hP : va_P (dC, dI) vwCl [(oS, .inr (1, [.ref aB, .int (nI hs), .ref aP, .ref aL, .int (nI (cn - 1)), .int (nI 0)])), (aB, .inl (cB, 8192, .inl g2_6)), (aP, .inl (cI, 16, .inl P3)), (aL, .inl (cI, 16, .inl L3))] H := hP
      have hD : va_D A [(oS, .inr (1, [.ref aB, .int (nI hs), .ref aP, .ref aL, .int (nI (cn - 1)), .int (nI 0)])), (aB, .inl (cB, 8192, .inl g2_6)), (aP, .inl (cI, 16, .inl P3)), (aL, .inl (cI, 16, .inl L3))] := hD
      refine lv_iload_n hx hb dX1_removeBlock_81 rfl (lv_at hl 2 rfl) ?_
      have hP9 := hP.sub (ws' := [(oS, .inr (1, [.ref aB, .int (nI hs), .ref aP, .ref aL, .int (nI (cn - 1)), .int (nI 0)])), (aB, .inl (cB, 8192, .inl g2_6)), (aP, .inl (cI, 16, .inl P3)), (aL, .inl (cI, 16, .inl L3))]) [0, 1, 2, 3] rfl
      have hD9 := hD.sub (ws' := [(oS, .inr (1, [.ref aB, .int (nI hs), .ref aP, .ref aL, .int (nI (cn - 1)), .int (nI 0)])), (aB, .inl (cB, 8192, .inl g2_6)), (aP, .inl (cI, 16, .inl P3)), (aL, .inl (cI, 16, .inl L3))]) [0, 1, 2, 3] (by decide) rfl
      exact W.iret (v := L ix) hx hb hr (fun t ht hW => ⟨⟨(L ix), (g2_6, hs, 0, P3, L3), rfl, ⟨rfl, by rw [if_pos (show cn = 1 by omega)], by rw [if_pos (show cn = 1 by omega)], by rw [if_pos (show cn = 1 by omega)]; assumption, shift_out (by omega) hcn hP3, shift_out (by omega) hcn hL3⟩, by rw [ht]; exact hP9, hD9⟩, hS.F ht⟩) hS.2.2 dX1_removeBlock_82
  · skip
    refine lv_aload_n hx hb dX1_removeBlock_27 rfl (lv_at hl 0 rfl) ?_
    refine va_get (D := (dC, dI)) (ci := 1) (v := .ref aP) (C := RX1) (T := TX1) (N := 6) hx hb hts (by decide +kernel) hown hK hP 0 rfl rfl 2 (by decide) (hts (.fieldLink RX1 19 "GlulxHeads$State" "blockPlace" "[I") (by decide +kernel)) (fun _ h9 => h9) rfl dX1_removeBlock_28 ?_
    refine lv_iload_n hx hb dX1_removeBlock_31 rfl (lv_at hl 3 rfl) ?_
    refine lv_aload_n hx hb dX1_removeBlock_32 rfl (lv_at hl 0 rfl) ?_
    refine va_get (D := (dC, dI)) (ci := 1) (v := .ref aP) (C := RX1) (T := TX1) (N := 6) hx hb hts (by decide +kernel) hown hK hP 0 rfl rfl 2 (by decide) (hts (.fieldLink RX1 19 "GlulxHeads$State" "blockPlace" "[I") (by decide +kernel)) (fun _ h9 => h9) rfl dX1_removeBlock_33 ?_
    refine lv_iload_n hx hb dX1_removeBlock_36 rfl (lv_at hl 3 rfl) ?_
    refine lv_iconst (v := nI 1) hx hb dX1_removeBlock_37 (by decide) ?_
    refine wx_iadd hx hb dX1_removeBlock_38 ?_
    refine wx_iald hx hb hK hP 2 1 rfl rfl (by omega) (by decide) dX1_removeBlock_39 ?_
    refine wx_iast hx hb hK hP hD hS 2 1 rfl rfl (by omega) (by decide) dX1_removeBlock_40 (fun H locs hP hD hS => ?_)
    have hP : va_P (dC, dI) vwCl [(oS, .inr (1, [.ref aB, .int (nI mz), .ref aP, .ref aL, .int (nI (cn - 1)), .int (nI hs)])), (aB, .inl (cB, 8192, .inl g)), (aP, .inl (cI, 16, .inl (upd P3 i (P3 (i + 1))))), (aL, .inl (cI, 16, .inl L3))] H := hP
    have hD : va_D A [(oS, .inr (1, [.ref aB, .int (nI mz), .ref aP, .ref aL, .int (nI (cn - 1)), .int (nI hs)])), (aB, .inl (cB, 8192, .inl g)), (aP, .inl (cI, 16, .inl (upd P3 i (P3 (i + 1))))), (aL, .inl (cI, 16, .inl L3))] := hD
    refine lv_aload_n hx hb dX1_removeBlock_41 rfl (lv_at hl 0 rfl) ?_
    refine va_get (D := (dC, dI)) (ci := 1) (v := .ref aL) (C := RX1) (T := TX1) (N := 6) hx hb hts (by decide +kernel) hown hK hP 0 rfl rfl 3 (by decide) (hts (.fieldLink RX1 23 "GlulxHeads$State" "blockLength" "[I") (by decide +kernel)) (fun _ h9 => h9) rfl dX1_removeBlock_42 ?_
    refine lv_iload_n hx hb dX1_removeBlock_45 rfl (lv_at hl 3 rfl) ?_
    refine lv_aload_n hx hb dX1_removeBlock_46 rfl (lv_at hl 0 rfl) ?_
    refine va_get (D := (dC, dI)) (ci := 1) (v := .ref aL) (C := RX1) (T := TX1) (N := 6) hx hb hts (by decide +kernel) hown hK hP 0 rfl rfl 3 (by decide) (hts (.fieldLink RX1 23 "GlulxHeads$State" "blockLength" "[I") (by decide +kernel)) (fun _ h9 => h9) rfl dX1_removeBlock_47 ?_
    refine lv_iload_n hx hb dX1_removeBlock_50 rfl (lv_at hl 3 rfl) ?_
    refine lv_iconst (v := nI 1) hx hb dX1_removeBlock_51 (by decide) ?_
    refine wx_iadd hx hb dX1_removeBlock_52 ?_
    refine wx_iald hx hb hK hP 3 1 rfl rfl (by omega) (by decide) dX1_removeBlock_53 ?_
    refine wx_iast hx hb hK hP hD hS 3 1 rfl rfl (by omega) (by decide) dX1_removeBlock_54 (fun H locs hP hD hS => ?_)
    have hP : va_P (dC, dI) vwCl [(oS, .inr (1, [.ref aB, .int (nI mz), .ref aP, .ref aL, .int (nI (cn - 1)), .int (nI hs)])), (aB, .inl (cB, 8192, .inl g)), (aP, .inl (cI, 16, .inl (upd P3 i (P3 (i + 1))))), (aL, .inl (cI, 16, .inl (upd L3 i (L3 (i + 1)))))] H := hP
    have hD : va_D A [(oS, .inr (1, [.ref aB, .int (nI mz), .ref aP, .ref aL, .int (nI (cn - 1)), .int (nI hs)])), (aB, .inl (cB, 8192, .inl g)), (aP, .inl (cI, 16, .inl (upd P3 i (P3 (i + 1))))), (aL, .inl (cI, 16, .inl (upd L3 i (L3 (i + 1)))))] := hD
    refine lv_iinc (v := nI (i + 1)) (lv' := [(3, .int (nI (i + 1))), (0, .ref oS), (1, .int (nI ix)), (2, .int (L ix))]) hx hb dX1_removeBlock_55 hl (k := 3) rfl (by rw [show Int32.ofInt 1 = nI 1 by decide]; exact nI_add _ _) (by decide) rfl (fun ls hl => ?_)
    refine lv_goto (tgt := 19) hx hb dX1_removeBlock_58 (by decide) ?_
    exact ih ((i + 1), (upd P3 i (P3 (i + 1))), (upd L3 i (L3 (i + 1)))) _ _ _ (by omega) ⟨by omega, by omega, shift_dn hi1 (by omega) hP3, shift_dn hi1 (by omega) hL3, hP.sub [0, 1, 2, 3] rfl, hD.sub [0, 1, 2, 3] (by decide) rfl, hS, lv_sub hl [1, 2, 3, 0] rfl⟩
