def blkS (cn mz hs : Nat) : Nat := if cn = 0 then mz else hs
def blkI (pl ll : Nat → Nat) (mz cn hs n : Nat) : Nat := gapI pl ll n cn 0 (blkS cn mz hs)
def blkX (pl ll : Nat → Nat) (mz cn hs n : Nat) : Nat := gapP pl ll (blkS cn mz hs) (blkI pl ll mz cn hs n)
/-- what comes of a new block of n bytes -/
def blkPost (pl ll mem : Nat → Nat) (mz cn hs n : Nat) (r : Int32) (g2 : Nat → Int32) (m2 cn2 hs2 : Nat) (P2 L2 : Nat → Int32) : Prop :=
  (cn < 16 ∧ blkX pl ll mz cn hs n + n ≤ 8192 ∧ r = nI (blkX pl ll mz cn hs n) ∧ m2 = max mz (rup (blkX pl ll mz cn hs n + n)) ∧ cn2 = cn + 1 ∧ hs2 = blkS cn mz hs ∧ mOk g2 m2 mem ∧ bOk P2 (cn + 1) (insN pl (blkI pl ll mz cn hs n) (blkX pl ll mz cn hs n)) ∧ bOk L2 (cn + 1) (insN ll (blkI pl ll mz cn hs n) n)) ∨
  (¬ (cn < 16 ∧ blkX pl ll mz cn hs n + n ≤ 8192) ∧ r = nI 0 ∧ m2 = mz ∧ cn2 = cn ∧ hs2 = hs ∧ mOk g2 mz mem ∧ bOk P2 cn pl ∧ bOk L2 cn ll)
theorem ins_bOk {P P2 : Nat → Int32} {pl : Nat → Nat} {cn ix x : Nat} (hP : bOk P cn pl) (hw : ∀ q, q ≤ cn → P2 q = if q < ix then P q else if q = ix then nI x else P (q - 1)) (hix : ix ≤ cn) : bOk P2 (cn + 1) (insN pl ix x) := by
  intro i hi
  rw [hw i (by omega)]; unfold insN
  by_cases z : i < ix
  · rw [if_pos z, if_pos z]; exact hP i (by omega)
  · rw [if_neg z, if_neg z]
    by_cases y : i = ix
    · rw [if_pos y, if_pos y]
    · rw [if_neg y, if_neg y]; exact hP (i - 1) (by omega)
theorem last_le {pl ll : Nat → Nat} {le ix cn x n : Nat} (h : le = (if ix = cn then x + n else pl (cn - 1) + ll (cn - 1))) (hx : x + n ≤ 8192) (hix : ix ≤ cn) (hb : ∀ i, i < cn → pl i + ll i ≤ 8192) : le ≤ 8192 := by
  rw [h]; split
  · exact hx
  · exact hb _ (by omega)
theorem last_end {P P2 L L2 : Nat → Int32} {pl ll : Nat → Nat} {cn ix x n : Nat} (hix : ix ≤ cn) (hP : bOk P cn pl) (hL : bOk L cn ll) (hw : (∀ q, q ≤ cn → P2 q = if q < ix then P q else if q = ix then nI x else P (q - 1)) ∧ (∀ q, q ≤ cn → L2 q = if q < ix then L q else if q = ix then nI n else L (q - 1))) : P2 (cn + 1 - 1) + L2 (cn + 1 - 1) = nI (if ix = cn then x + n else pl (cn - 1) + ll (cn - 1)) := by
  have hlt : ¬ cn < ix := by omega
  rw [Nat.add_sub_cancel, hw.1 cn (Nat.le_refl _), hw.2 cn (Nat.le_refl _), if_neg hlt, if_neg hlt]
  by_cases z : ix = cn
  · rw [if_pos z.symm, if_pos z.symm, if_pos z, nI_add]
  · have z2 : ¬ cn = ix := fun y => z y.symm
    rw [if_neg z2, if_neg z2, if_neg z, hP (cn - 1) (by omega), hL (cn - 1) (by omega), nI_add]
theorem gap_fit0 {pl ll : Nat → Nat} {n st cn : Nat} (h : gapI pl ll n cn 0 st < cn) : gapP pl ll st (gapI pl ll n cn 0 st) + n ≤ pl (gapI pl ll n cn 0 st) := by
  have e : gapP pl ll st 0 = st := rfl
  have := gapI_fit (pl := pl) (ll := ll) (n := n) (st := st) cn 0
  rw [e] at this
  exact this (by omega)
theorem blk_ok {g g2 P P2 L L2 : Nat → Int32} {pl ll mem : Nat → Nat} {mz cn hs n st ix x le : Nat} (hst : st = blkS cn mz hs) (hix : ix = gapI pl ll n cn 0 st) (hx : x = gapP pl ll st ix) (hcn : cn < 16) (hxn : x + n ≤ 8192) (hP : bOk P cn pl) (hL : bOk L cn ll) (hw : (∀ q, q ≤ cn → P2 q = if q < ix then P q else if q = ix then nI x else P (q - 1)) ∧ (∀ q, q ≤ cn → L2 q = if q < ix then L q else if q = ix then nI n else L (q - 1)))
    (hle : le = (if ix = cn then x + n else pl (cn - 1) + ll (cn - 1))) (hbm : ∀ i, i < cn → pl i + ll i ≤ mz) (h256 : mz % 256 = 0) (hM : mOk g mz mem) (hm : mOk g2 (max mz ((le + 256 - 1) / 256 * 256)) (cutM mem (max mz ((le + 256 - 1) / 256 * 256)))) :
    blkPost pl ll mem mz cn hs n (nI x) g2 (max mz ((le + 256 - 1) / 256 * 256)) (cn + 1) st P2 L2 := by
  have e1 : ix = blkI pl ll mz cn hs n := by rw [hix, hst]; rfl
  have e2 : x = blkX pl ll mz cn hs n := by rw [hx, hst, e1]; rfl
  have hgl := gapI_le (pl := pl) (ll := ll) (n := n) cn 0 st
  have hixc : ix ≤ cn := by rw [hix]; omega
  have e3 : max mz ((le + 256 - 1) / 256 * 256) = max mz (rup (x + n)) := by
    unfold rup
    by_cases z : ix = cn
    · rw [hle, if_pos z]
    · have h1 : x + n ≤ pl ix := by
        have := gap_fit0 (pl := pl) (ll := ll) (n := n) (st := st) (cn := cn) (by rw [← hix]; omega)
        rw [← hix, ← hx] at this; exact this
      have h2 := hbm ix (by omega)
      have h3 := hbm (cn - 1) (by omega)
      rw [hle, if_neg z]
      omega
  refine Or.inl ⟨hcn, by rw [← e2]; exact hxn, by rw [← e2], by rw [← e2]; exact e3, rfl, hst, ?_, by rw [← e2, ← e1]; exact ins_bOk hP hw.1 hixc, by rw [← e1]; exact ins_bOk hL hw.2 hixc⟩
  rw [cutM_up hM (Nat.le_max_left _ _)] at hm
  exact hm
theorem blk_no {g P L : Nat → Int32} {pl ll mem : Nat → Nat} {mz cn hs n : Nat} (h : ¬ cn < 16) (hM : mOk g mz mem) (hP : bOk P cn pl) (hL : bOk L cn ll) : blkPost pl ll mem mz cn hs n (nI 0) g mz cn hs P L := Or.inr ⟨fun z => h z.1, rfl, rfl, rfl, rfl, hM, hP, hL⟩
theorem blk_no2 {g P L : Nat → Int32} {pl ll mem : Nat → Nat} {mz cn hs n st ix x : Nat} (hst : st = blkS cn mz hs) (hix : ix = gapI pl ll n cn 0 st) (hx : x = gapP pl ll st ix) (hxn : ¬ x + n ≤ 8192) (hM : mOk g mz mem) (hP : bOk P cn pl) (hL : bOk L cn ll) : blkPost pl ll mem mz cn hs n (nI 0) g mz cn hs P L := by
  have e1 : ix = blkI pl ll mz cn hs n := by rw [hix, hst]; rfl
  have e2 : x = blkX pl ll mz cn hs n := by rw [hx, hst, e1]; rfl
  exact Or.inr ⟨fun z => hxn (by rw [e2]; exact z.2), rfl, rfl, rfl, rfl, hM, hP, hL⟩
set_option maxHeartbeats 4000000 in
set_option maxRecDepth 100000 in
theorem c_X1_addBlock (l : Launch) (dC : Nat → ClassId) (dI : Nat → Nat → Nat) (cB cI cJ : ClassId) (sz : Nat) (oS : Nat) (aB : Nat) (aP : Nat) (aL : Nat) (mz : Nat) (cn : Nat) (hs : Nat) (g : Nat → Int32) (P : Nat → Int32) (L : Nat → Int32) (mem : Nat → Nat) (pl : Nat → Nat) (ll : Nat → Nat) (n : Nat) (hM : mOk g mz mem) (hcn : cn ≤ 16) (hPl : bOk P cn pl) (hLl : bOk L cn ll) (hbd : ∀ i, i < cn → pl i + ll i ≤ 8192) (hbm : ∀ i, i < cn → pl i + ll i ≤ mz) (h256 : mz % 256 = 0) (hhs : hs ≤ 8192) (hn1 : 1 ≤ n) (hn2 : n < 2147483648) : Met l yX1_addBlock wsX1_addBlock ({ frames := 2, cells := 0, slots := 0, locals := 45 }) (va_Pc [.ref oS, .int (nI n)] (wPre dC dI cB cI cJ sz [(oS, .inr (1, [.ref aB, .int (nI mz), .ref aP, .ref aL, .int (nI cn), .int (nI hs)])), (aB, .inl (cB, 8192, .inl g)), (aP, .inl (cI, 16, .inl P)), (aL, .inl (cI, 16, .inl L))])) (va_Qi (fun (r : Int32) (u : (Nat → Int32) × Nat × Nat × Nat × (Nat → Int32) × (Nat → Int32)) => blkPost pl ll mem mz cn hs n r u.1 u.2.1 u.2.2.1 u.2.2.2.1 u.2.2.2.2.1 u.2.2.2.2.2) (fun (u : (Nat → Int32) × Nat × Nat × Nat × (Nat → Int32) × (Nat → Int32)) => wPost dC dI (va_A [(oS, .inr (1, [.ref aB, .int (nI mz), .ref aP, .ref aL, .int (nI cn), .int (nI hs)])), (aB, .inl (cB, 8192, .inl g)), (aP, .inl (cI, 16, .inl P)), (aL, .inl (cI, 16, .inl L))] sz) [(oS, .inr (1, [.ref aB, .int (nI u.2.1), .ref aP, .ref aL, .int (nI u.2.2.1), .int (nI u.2.2.2.1)])), (aB, .inl (cB, 8192, .inl u.1)), (aP, .inl (cI, 16, .inl u.2.2.2.2.1)), (aL, .inl (cI, 16, .inl u.2.2.2.2.2))]) (va_A [(oS, .inr (1, [.ref aB, .int (nI mz), .ref aP, .ref aL, .int (nI cn), .int (nI hs)])), (aB, .inl (cB, 8192, .inl g)), (aP, .inl (cI, 16, .inl P)), (aL, .inl (cI, 16, .inl L))] sz)) 0 0 (va_A [(oS, .inr (1, [.ref aB, .int (nI mz), .ref aP, .ref aL, .int (nI cn), .int (nI hs)])), (aB, .inl (cB, 8192, .inl g)), (aP, .inl (cI, 16, .inl P)), (aL, .inl (cI, 16, .inl L))] sz) := by
  refine Met.ofW (cc := cX1_addBlock) (maxL := 5) (ret := (some .int)) (by decide) rfl ?_
  intro p e s m args below meth c s₁ B hml hv
  obtain ⟨rfl, hsz, hP, hK, hD0, hN⟩ := hv
  have hx := B.exec
  have hb := B.bytes
  have hr := B.returns
  have hts := atoms_spec (ws := wsX1_addBlock) B.pre
  have hown : s.vm.findClass RX1 = some m.cls := findClass_of_methodNamed B.named
  have hlocks := B.notSynchronized
  subst hsz
  have hD := hD0.self (sz := s.heap.size)
  generalize hAe : va_A [(oS, .inr (1, [.ref aB, .int (nI mz), .ref aP, .ref aL, .int (nI cn), .int (nI hs)])), (aB, .inl (cB, 8192, .inl g)), (aP, .inl (cI, 16, .inl P)), (aL, .inl (cI, 16, .inl L))] s.heap.size = A at hD ⊢
  have hA : ∀ q : Nat, s.heap.size ≤ q → A q := fun q h => by rw [← hAe]; exact Or.inr h
  have hS : va_S A s.heap s.heap [] := va_S.rf
  have hP : va_P (dC, dI) vwCl [(oS, .inr (1, [.ref aB, .int (nI mz), .ref aP, .ref aL, .int (nI cn), .int (nI hs)])), (aB, .inl (cB, 8192, .inl g)), (aP, .inl (cI, 16, .inl P)), (aL, .inl (cI, 16, .inl L))] s.heap := hP
  have hl := lv_entry ([.ref oS, .int (nI n)]) (n := 5) (Nat.le_of_ble_eq_true rfl)
  rw [lg_entry_eq]
  generalize (lg_sl ([.ref oS, .int (nI n)]) ++ List.replicate (5 - (lg_sl ([.ref oS, .int (nI n)])).length) Slot.unset).toArray = ls at hl ⊢
  have hl : lv_has ls 5 [(0, .ref oS), (1, .int (nI n))] := hl
  have hM1 := hM.1
  have hM2 := hM.2.1
  refine lv_aload_n hx hb dX1_addBlock_0 rfl (lv_at hl 0 rfl) ?_
  refine va_get (D := (dC, dI)) (ci := 1) (v := .int (nI cn)) (C := RX1) (T := TX1) (N := 6) hx hb hts (by decide +kernel) hown hK hP 0 rfl rfl 4 (by decide) (hts (.fieldLink RX1 26 "GlulxHeads$State" "blockCount" "I") (by decide +kernel)) (fun _ h9 => h9) rfl dX1_addBlock_1 ?_
  refine lv_bipush (v := nI 16) hx hb dX1_addBlock_4 (by decide) ?_
  refine wx_icmp_lt (tgt := 11) hx hb dX1_addBlock_6 (by decide) (by omega) (by omega) (fun c_1 => ?_) (fun c_1 => ?_)
  · skip
    refine lv_aload_n hx hb dX1_addBlock_11 rfl (lv_at hl 0 rfl) ?_
    refine va_get (D := (dC, dI)) (ci := 1) (v := .int (nI cn)) (C := RX1) (T := TX1) (N := 6) hx hb hts (by decide +kernel) hown hK hP 0 rfl rfl 4 (by decide) (hts (.fieldLink RX1 26 "GlulxHeads$State" "blockCount" "I") (by decide +kernel)) (fun _ h9 => h9) rfl dX1_addBlock_12 ?_
    refine wx_if_ne (tgt := 25) hx hb dX1_addBlock_15 (by decide) (by omega) (fun c_2 => ?_) (fun c_2 => ?_)
    · skip
      refine lv_aload_n hx hb dX1_addBlock_25 rfl (lv_at hl 0 rfl) ?_
      refine va_get (D := (dC, dI)) (ci := 1) (v := .int (nI hs)) (C := RX1) (T := TX1) (N := 6) hx hb hts (by decide +kernel) hown hK hP 0 rfl rfl 5 (by decide) (hts (.fieldLink RX1 29 "GlulxHeads$State" "heapStart" "I") (by decide +kernel)) (fun _ h9 => h9) rfl dX1_addBlock_26 ?_
      refine lv_istore_n (lv' := [(2, .int (nI hs)), (0, .ref oS), (1, .int (nI n))]) hx hb dX1_addBlock_29 rfl hl (by decide) rfl (fun ls hl => ?_)
      refine lv_aload_n hx hb dX1_addBlock_30 rfl (lv_at hl 1 rfl) ?_
      refine lv_iload_n hx hb dX1_addBlock_31 rfl (lv_at hl 2 rfl) ?_
      refine lv_iload_n hx hb dX1_addBlock_32 rfl (lv_at hl 0 rfl) ?_
      have hPc := hP.sub (ws' := [(oS, .inr (1, [.ref aB, .int (nI mz), .ref aP, .ref aL, .int (nI cn), .int (nI hs)])), (aB, .inl (cB, 8192, .inl g)), (aP, .inl (cI, 16, .inl P)), (aL, .inl (cI, 16, .inl L))]) [0, 1, 2, 3] rfl
      have hDc := hD.sub (ws' := [(oS, .inr (1, [.ref aB, .int (nI mz), .ref aP, .ref aL, .int (nI cn), .int (nI hs)])), (aB, .inl (cB, 8192, .inl g)), (aP, .inl (cI, 16, .inl P)), (aL, .inl (cI, 16, .inl L))]) [0, 1, 2, 3] (by decide) rfl
      have hFc := va_free (wc := [(oS, .inr (1, [.ref aB, .int (nI mz), .ref aP, .ref aL, .int (nI cn), .int (nI hs)])), (aB, .inl (cB, 8192, .inl g)), (aP, .inl (cI, 16, .inl P)), (aL, .inl (cI, 16, .inl L))]) hD hS hA [0, 1, 2, 3] rfl
      refine va_calli (va_runV (As := [.int (nI n), .int (nI hs)]) (rest := []) ⟨hx, hb, hml, hown, hts⟩ (c_X1_gapFor l dC dI cB cI cJ s.heap.size oS aB aP aL mz cn hs g P L pl ll n hs (by omega) hPl hLl hbd (by omega) (by omega)) (cwV 2 hts gX1_addBlock_X1_gapFor rfl rfl rfl (by decide +kernel) ⟨Nat.le_of_ble_eq_true rfl, Nat.le_of_ble_eq_true rfl⟩) ⟨wBlind, va_recv hK hPc (ci := 1) (q0 := 0) rfl rfl, wGo hK hPc hDc hN⟩ rfl rfl hl.1 rfl (lv_room (Nat.le_of_ble_eq_true rfl)) dX1_addBlock_33 ⟨show 0 ≤ 0 by decide, show 0 ≤ 0 by decide⟩) hS (fun q _ h => hFc q h) hFc (fun r_4 u t H1 locs ht hvm w_5 hB hz1 hk1 hS => ?_)
      clear u
      obtain ⟨hP1, hD1⟩ := hB
      rw [ht] at hP1
      try dsimp only at w_5
      obtain ⟨hP, hD⟩ := va_join (wr := []) (w1 := [(oS, .inr (1, [.ref aB, .int (nI mz), .ref aP, .ref aL, .int (nI cn), .int (nI hs)])), (aB, .inl (cB, 8192, .inl g)), (aP, .inl (cI, 16, .inl P)), (aL, .inl (cI, 16, .inl L))]) hP hD [0, 1, 2, 3] [] rfl rfl (by decide) (by decide) hk1 hFc hP1 hD1
      clear hPc hDc hFc hP1 hD1 hz1 hk1 hvm
      generalize H1 = H at hP hS ⊢
      have hP : va_P (dC, dI) vwCl [(oS, .inr (1, [.ref aB, .int (nI mz), .ref aP, .ref aL, .int (nI cn), .int (nI hs)])), (aB, .inl (cB, 8192, .inl g)), (aP, .inl (cI, 16, .inl P)), (aL, .inl (cI, 16, .inl L))] H := hP
      have hD : va_D A [(oS, .inr (1, [.ref aB, .int (nI mz), .ref aP, .ref aL, .int (nI cn), .int (nI hs)])), (aB, .inl (cB, 8192, .inl g)), (aP, .inl (cI, 16, .inl P)), (aL, .inl (cI, 16, .inl L))] := hD
      obtain ⟨ix, hix⟩ : ∃ ix, ix = gapI pl ll n cn 0 hs := ⟨_, rfl⟩
      have hgl := gapI_le (pl := pl) (ll := ll) (n := n) cn 0 hs
      rw [← hix] at w_5 hgl
      subst w_5
      refine lv_istore_n (lv' := [(3, .int (nI ix)), (2, .int (nI hs)), (0, .ref oS), (1, .int (nI n))]) hx hb dX1_addBlock_36 rfl hl (by decide) rfl (fun ls hl => ?_)
      refine lv_iload_n hx hb dX1_addBlock_37 rfl (lv_at hl 0 rfl) ?_
      refine wx_if_ne (tgt := 45) hx hb dX1_addBlock_38 (by decide) (by omega) (fun c_6 => ?_) (fun c_6 => ?_)
      · skip
        refine lv_aload_n hx hb dX1_addBlock_45 rfl (lv_at hl 2 rfl) ?_
        refine lv_iload_n hx hb dX1_addBlock_46 rfl (lv_at hl 0 rfl) ?_
        refine lv_iconst (v := nI 1) hx hb dX1_addBlock_47 (by decide) ?_
        refine wx_isub hx hb dX1_addBlock_48 (by omega) ?_
        have hPc := hP.sub (ws' := [(oS, .inr (1, [.ref aB, .int (nI mz), .ref aP, .ref aL, .int (nI cn), .int (nI hs)])), (aB, .inl (cB, 8192, .inl g)), (aP, .inl (cI, 16, .inl P)), (aL, .inl (cI, 16, .inl L))]) [0, 1, 2, 3] rfl
        have hDc := hD.sub (ws' := [(oS, .inr (1, [.ref aB, .int (nI mz), .ref aP, .ref aL, .int (nI cn), .int (nI hs)])), (aB, .inl (cB, 8192, .inl g)), (aP, .inl (cI, 16, .inl P)), (aL, .inl (cI, 16, .inl L))]) [0, 1, 2, 3] (by decide) rfl
        have hFc := va_free (wc := [(oS, .inr (1, [.ref aB, .int (nI mz), .ref aP, .ref aL, .int (nI cn), .int (nI hs)])), (aB, .inl (cB, 8192, .inl g)), (aP, .inl (cI, 16, .inl P)), (aL, .inl (cI, 16, .inl L))]) hD hS hA [0, 1, 2, 3] rfl
        refine va_calli (va_runV (As := [.int (nI (ix - 1))]) (rest := []) ⟨hx, hb, hml, hown, hts⟩ (c_X1_blockEnd l dC dI cB cI cJ H.size oS aB aP aL mz cn hs g P L (ix - 1) (by omega)) (cwV 1 hts gX1_addBlock_X1_blockEnd rfl rfl rfl (by decide +kernel) ⟨Nat.le_of_ble_eq_true rfl, Nat.le_of_ble_eq_true rfl⟩) ⟨wBlind, va_recv hK hPc (ci := 1) (q0 := 0) rfl rfl, wGo hK hPc hDc hN⟩ rfl rfl hl.1 rfl (lv_room (Nat.le_of_ble_eq_true rfl)) dX1_addBlock_49 ⟨show 0 ≤ 0 by decide, show 0 ≤ 0 by decide⟩) hS (fun q _ h => hFc q h) hFc (fun r_8 u t H1 locs ht hvm w_9 hB hz1 hk1 hS => ?_)
        clear u
        obtain ⟨hP1, hD1⟩ := hB
        rw [ht] at hP1
        try dsimp only at w_9
        obtain ⟨hP, hD⟩ := va_join (wr := []) (w1 := [(oS, .inr (1, [.ref aB, .int (nI mz), .ref aP, .ref aL, .int (nI cn), .int (nI hs)])), (aB, .inl (cB, 8192, .inl g)), (aP, .inl (cI, 16, .inl P)), (aL, .inl (cI, 16, .inl L))]) hP hD [0, 1, 2, 3] [] rfl rfl (by decide) (by decide) hk1 hFc hP1 hD1
        clear hPc hDc hFc hP1 hD1 hz1 hk1 hvm
        generalize H1 = H at hP hS ⊢
        have hP : va_P (dC, dI) vwCl [(oS, .inr (1, [.ref aB, .int (nI mz), .ref aP, .ref aL, .int (nI cn), .int (nI hs)])), (aB, .inl (cB, 8192, .inl g)), (aP, .inl (cI, 16, .inl P)), (aL, .inl (cI, 16, .inl L))] H := hP
        have hD : va_D A [(oS, .inr (1, [.ref aB, .int (nI mz), .ref aP, .ref aL, .int (nI cn), .int (nI hs)])), (aB, .inl (cB, 8192, .inl g)), (aP, .inl (cI, 16, .inl P)), (aL, .inl (cI, 16, .inl L))] := hD
        rw [hPl (ix - 1) (by omega), hLl (ix - 1) (by omega), nI_add] at w_9
        have hb1 := hbd (ix - 1) (by omega)
        subst w_9
        refine lv_istore (lv' := [(4, .int (nI (pl (ix - 1) + ll (ix - 1)))), (3, .int (nI ix)), (2, .int (nI hs)), (0, .ref oS), (1, .int (nI n))]) hx hb dX1_addBlock_52 hl (by decide) rfl (fun ls hl => ?_)
        refine lv_iload_n hx hb dX1_addBlock_54 rfl (lv_at hl 4 rfl) ?_
        refine lv_sipush (v := nI 8192) hx hb dX1_addBlock_55 (by decide) ?_
        refine lv_iload hx hb dX1_addBlock_58 (lv_at hl 0 rfl) ?_
        refine wx_isub hx hb dX1_addBlock_60 (by omega) ?_
        refine wx_icmp_le (tgt := 66) hx hb dX1_addBlock_61 (by decide) (by omega) (by omega) (fun c_10 => ?_) (fun c_10 => ?_)
        · skip
          refine lv_aload_n hx hb dX1_addBlock_66 rfl (lv_at hl 3 rfl) ?_
          refine lv_iload_n hx hb dX1_addBlock_67 rfl (lv_at hl 1 rfl) ?_
          refine lv_iload hx hb dX1_addBlock_68 (lv_at hl 0 rfl) ?_
          refine lv_iload_n hx hb dX1_addBlock_70 rfl (lv_at hl 4 rfl) ?_
          have hPc := hP.sub (ws' := [(oS, .inr (1, [.ref aB, .int (nI mz), .ref aP, .ref aL, .int (nI cn), .int (nI hs)])), (aB, .inl (cB, 8192, .inl g)), (aP, .inl (cI, 16, .inl P)), (aL, .inl (cI, 16, .inl L))]) [0, 1, 2, 3] rfl
          have hDc := hD.sub (ws' := [(oS, .inr (1, [.ref aB, .int (nI mz), .ref aP, .ref aL, .int (nI cn), .int (nI hs)])), (aB, .inl (cB, 8192, .inl g)), (aP, .inl (cI, 16, .inl P)), (aL, .inl (cI, 16, .inl L))]) [0, 1, 2, 3] (by decide) rfl
          have hFc := va_free (wc := [(oS, .inr (1, [.ref aB, .int (nI mz), .ref aP, .ref aL, .int (nI cn), .int (nI hs)])), (aB, .inl (cB, 8192, .inl g)), (aP, .inl (cI, 16, .inl P)), (aL, .inl (cI, 16, .inl L))]) hD hS hA [0, 1, 2, 3] rfl
          refine va_callv (va_runV (As := [.int (nI ix), .int (nI (pl (ix - 1) + ll (ix - 1))), .int (nI n)]) (rest := []) ⟨hx, hb, hml, hown, hts⟩ (c_X1_insertBlock l dC dI cB cI cJ H.size oS aB aP aL mz cn hs g P L ix (pl (ix - 1) + ll (ix - 1)) n (by omega) (by omega)) (cwV 3 hts gX1_addBlock_X1_insertBlock rfl rfl rfl (by decide +kernel) ⟨Nat.le_of_ble_eq_true rfl, Nat.le_of_ble_eq_true rfl⟩) ⟨wBlind, va_recv hK hPc (ci := 1) (q0 := 0) rfl rfl, wGo hK hPc hDc hN⟩ rfl rfl hl.1 rfl (lv_room (Nat.le_of_ble_eq_true rfl)) dX1_addBlock_71 ⟨show 0 ≤ 0 by decide, show 0 ≤ 0 by decide⟩) hS (fun q _ h => hFc q h) hFc (fun u t H1 locs ht hvm w_13 hB hz1 hk1 hS => ?_)
          obtain ⟨P2_14, L2_15⟩ := u
          obtain ⟨hP1, hD1⟩ := hB
          rw [ht] at hP1
          try dsimp only at w_13
          obtain ⟨hP, hD⟩ := va_join (wr := []) (w1 := [(oS, .inr (1, [.ref aB, .int (nI mz), .ref aP, .ref aL, .int (nI (cn + 1)), .int (nI hs)])), (aB, .inl (cB, 8192, .inl g)), (aP, .inl (cI, 16, .inl P2_14)), (aL, .inl (cI, 16, .inl L2_15))]) hP hD [0, 1, 2, 3] [] rfl rfl (by decide) (by decide) hk1 hFc hP1 hD1
          clear hPc hDc hFc hP1 hD1 hz1 hk1 hvm
          generalize H1 = H at hP hS ⊢
          have hP : va_P (dC, dI) vwCl [(oS, .inr (1, [.ref aB, .int (nI mz), .ref aP, .ref aL, .int (nI (cn + 1)), .int (nI hs)])), (aB, .inl (cB, 8192, .inl g)), (aP, .inl (cI, 16, .inl P2_14)), (aL, .inl (cI, 16, .inl L2_15))] H := hP
          have hD : va_D A [(oS, .inr (1, [.ref aB, .int (nI mz), .ref aP, .ref aL, .int (nI (cn + 1)), .int (nI hs)])), (aB, .inl (cB, 8192, .inl g)), (aP, .inl (cI, 16, .inl P2_14)), (aL, .inl (cI, 16, .inl L2_15))] := hD
          refine lv_aload_n hx hb dX1_addBlock_74 rfl (lv_at hl 3 rfl) ?_
          refine lv_iload_n hx hb dX1_addBlock_75 rfl (lv_at hl 2 rfl) ?_
          refine va_put (D := (dC, dI)) (ci := 1) (v := .int (nI hs)) (ty := .int) (C := RX1) (T := TX1) (N := 6) hx hb hts (by decide +kernel) tyX1 tyX1_ok nmX1 hown hK hP hD hS 0 rfl rfl 5 (by decide) (hts (.fieldLink RX1 29 "GlulxHeads$State" "heapStart" "I") (by decide +kernel)) (fun _ h9 => h9) rfl (by decide +kernel) rfl rfl (Nat.le_of_ble_eq_true rfl) dX1_addBlock_76 (fun H locs hP hD hS => ?_)
          have hP : va_P (dC, dI) vwCl [(oS, .inr (1, [.ref aB, .int (nI mz), .ref aP, .ref aL, .int (nI (cn + 1)), .int (nI hs)])), (aB, .inl (cB, 8192, .inl g)), (aP, .inl (cI, 16, .inl P2_14)), (aL, .inl (cI, 16, .inl L2_15))] H := hP
          have hD : va_D A [(oS, .inr (1, [.ref aB, .int (nI mz), .ref aP, .ref aL, .int (nI (cn + 1)), .int (nI hs)])), (aB, .inl (cB, 8192, .inl g)), (aP, .inl (cI, 16, .inl P2_14)), (aL, .inl (cI, 16, .inl L2_15))] := hD
          refine lv_aload_n hx hb dX1_addBlock_79 rfl (lv_at hl 3 rfl) ?_
          refine lv_aload_n hx hb dX1_addBlock_80 rfl (lv_at hl 3 rfl) ?_
          refine va_get (D := (dC, dI)) (ci := 1) (v := .int (nI mz)) (C := RX1) (T := TX1) (N := 6) hx hb hts (by decide +kernel) hown hK hP 0 rfl rfl 1 (by decide) (hts (.fieldLink RX1 15 "GlulxHeads$State" "size" "I") (by decide +kernel)) (fun _ h9 => h9) rfl dX1_addBlock_81 ?_
          refine lv_aload_n hx hb dX1_addBlock_84 rfl (lv_at hl 3 rfl) ?_
          refine lv_aload_n hx hb dX1_addBlock_85 rfl (lv_at hl 3 rfl) ?_
          refine va_get (D := (dC, dI)) (ci := 1) (v := .int (nI (cn + 1))) (C := RX1) (T := TX1) (N := 6) hx hb hts (by decide +kernel) hown hK hP 0 rfl rfl 4 (by decide) (hts (.fieldLink RX1 26 "GlulxHeads$State" "blockCount" "I") (by decide +kernel)) (fun _ h9 => h9) rfl dX1_addBlock_86 ?_
          refine lv_iconst (v := nI 1) hx hb dX1_addBlock_89 (by decide) ?_
          refine wx_isub hx hb dX1_addBlock_90 (by omega) ?_
          have hPc := hP.sub (ws' := [(oS, .inr (1, [.ref aB, .int (nI mz), .ref aP, .ref aL, .int (nI (cn + 1)), .int (nI hs)])), (aB, .inl (cB, 8192, .inl g)), (aP, .inl (cI, 16, .inl P2_14)), (aL, .inl (cI, 16, .inl L2_15))]) [0, 1, 2, 3] rfl
          have hDc := hD.sub (ws' := [(oS, .inr (1, [.ref aB, .int (nI mz), .ref aP, .ref aL, .int (nI (cn + 1)), .int (nI hs)])), (aB, .inl (cB, 8192, .inl g)), (aP, .inl (cI, 16, .inl P2_14)), (aL, .inl (cI, 16, .inl L2_15))]) [0, 1, 2, 3] (by decide) rfl
          have hFc := va_free (wc := [(oS, .inr (1, [.ref aB, .int (nI mz), .ref aP, .ref aL, .int (nI (cn + 1)), .int (nI hs)])), (aB, .inl (cB, 8192, .inl g)), (aP, .inl (cI, 16, .inl P2_14)), (aL, .inl (cI, 16, .inl L2_15))]) hD hS hA [0, 1, 2, 3] rfl
          refine va_calli (va_runV (As := [.int (nI ((cn + 1) - 1))]) (rest := [.int (nI mz), .ref oS]) ⟨hx, hb, hml, hown, hts⟩ (c_X1_blockEnd l dC dI cB cI cJ H.size oS aB aP aL mz (cn + 1) hs g P2_14 L2_15 ((cn + 1) - 1) (by omega)) (cwV 1 hts gX1_addBlock_X1_blockEnd rfl rfl rfl (by decide +kernel) ⟨Nat.le_of_ble_eq_true rfl, Nat.le_of_ble_eq_true rfl⟩) ⟨wBlind, va_recv hK hPc (ci := 1) (q0 := 0) rfl rfl, wGo hK hPc hDc hN⟩ rfl rfl hl.1 rfl (lv_room (Nat.le_of_ble_eq_true rfl)) dX1_addBlock_91 ⟨show 0 ≤ 0 by decide, show 0 ≤ 0 by decide⟩) hS (fun q _ h => hFc q h) hFc (fun r_17 u t H1 locs ht hvm w_18 hB hz1 hk1 hS => ?_)
          clear u
          obtain ⟨hP1, hD1⟩ := hB
          rw [ht] at hP1
          try dsimp only at w_18
          obtain ⟨hP, hD⟩ := va_join (wr := []) (w1 := [(oS, .inr (1, [.ref aB, .int (nI mz), .ref aP, .ref aL, .int (nI (cn + 1)), .int (nI hs)])), (aB, .inl (cB, 8192, .inl g)), (aP, .inl (cI, 16, .inl P2_14)), (aL, .inl (cI, 16, .inl L2_15))]) hP hD [0, 1, 2, 3] [] rfl rfl (by decide) (by decide) hk1 hFc hP1 hD1
          clear hPc hDc hFc hP1 hD1 hz1 hk1 hvm
          generalize H1 = H at hP hS ⊢
          have hP : va_P (dC, dI) vwCl [(oS, .inr (1, [.ref aB, .int (nI mz), .ref aP, .ref aL, .int (nI (cn + 1)), .int (nI hs)])), (aB, .inl (cB, 8192, .inl g)), (aP, .inl (cI, 16, .inl P2_14)), (aL, .inl (cI, 16, .inl L2_15))] H := hP
          have hD : va_D A [(oS, .inr (1, [.ref aB, .int (nI mz), .ref aP, .ref aL, .int (nI (cn + 1)), .int (nI hs)])), (aB, .inl (cB, 8192, .inl g)), (aP, .inl (cI, 16, .inl P2_14)), (aL, .inl (cI, 16, .inl L2_15))] := hD
          obtain ⟨le, hle⟩ : ∃ le, le = (if ix = cn then (pl (ix - 1) + ll (ix - 1)) + n else pl (cn - 1) + ll (cn - 1)) := ⟨_, rfl⟩
          have hle3 : le ≤ 8192 := last_le hle (by omega) (by omega) hbd
          rw [last_end (by omega) hPl hLl w_13, ← hle] at w_18
          subst w_18
          have hPc := hP.sub (ws' := []) [] rfl
          have hDc := hD.sub (ws' := []) [] (by decide) rfl
          have hFc := va_free (wc := []) hD hS hA [] rfl
          refine va_calli (va_runS (As := [.int (nI le)]) (rest := [.int (nI mz), .ref oS]) ⟨hx, hb, hml, hown, hts⟩ (c_X1_roundUp l dC dI cB cI cJ H.size le (by omega)) (va_cwS 1 hts gX1_addBlock_X1_roundUp rfl rfl rfl (by decide +kernel) ⟨Nat.le_of_ble_eq_true rfl, Nat.le_of_ble_eq_true rfl⟩) ⟨wBlind, wGo hK hPc hDc hN⟩ rfl rfl hl.1 rfl (lv_room (Nat.le_of_ble_eq_true rfl)) dX1_addBlock_94 ⟨show 0 ≤ 0 by decide, show 0 ≤ 0 by decide⟩) hS (fun q _ h => hFc q h) hFc (fun r_20 u t H1 locs ht hvm w_21 hB hz1 hk1 hS => ?_)
          clear u
          obtain ⟨hP1, hD1⟩ := hB
          rw [ht] at hP1
          try dsimp only at w_21
          obtain ⟨hP, hD⟩ := va_join (wr := [(oS, .inr (1, [.ref aB, .int (nI mz), .ref aP, .ref aL, .int (nI (cn + 1)), .int (nI hs)])), (aB, .inl (cB, 8192, .inl g)), (aP, .inl (cI, 16, .inl P2_14)), (aL, .inl (cI, 16, .inl L2_15))]) (w1 := []) hP hD [] [0, 1, 2, 3] rfl rfl (by decide) (by decide) hk1 hFc hP1 hD1
          clear hPc hDc hFc hP1 hD1 hz1 hk1 hvm
          generalize H1 = H at hP hS ⊢
          have hP : va_P (dC, dI) vwCl [(oS, .inr (1, [.ref aB, .int (nI mz), .ref aP, .ref aL, .int (nI (cn + 1)), .int (nI hs)])), (aB, .inl (cB, 8192, .inl g)), (aP, .inl (cI, 16, .inl P2_14)), (aL, .inl (cI, 16, .inl L2_15))] H := hP
          have hD : va_D A [(oS, .inr (1, [.ref aB, .int (nI mz), .ref aP, .ref aL, .int (nI (cn + 1)), .int (nI hs)])), (aB, .inl (cB, 8192, .inl g)), (aP, .inl (cI, 16, .inl P2_14)), (aL, .inl (cI, 16, .inl L2_15))] := hD
          subst w_21
          refine va_mmax hx hb (by rw [hml]; exact hl.1.symm) hown (hts (.methodLink RX1 60 Lib.Math.max.name) (by decide +kernel)) (hts (.static Lib.Math.max.name) (by decide +kernel)) (hts (.initialized "java/lang/Math") (by decide +kernel)) (hts (.code Lib.Math.max.name Lib.Math.max.code 2 (some .int)) (List.mem_of_getElem? (i := 7) rfl)) (Nat.le_of_ble_eq_true rfl) (Nat.le_of_ble_eq_true rfl) (Nat.le_of_ble_eq_true rfl) (Nat.le_of_ble_eq_true rfl) dX1_addBlock_97 ?_
          refine wx_top (wm_max (by omega) (by omega)) ?_
          have hPc := hP.sub (ws' := [(oS, .inr (1, [.ref aB, .int (nI mz), .ref aP, .ref aL, .int (nI (cn + 1)), .int (nI hs)])), (aB, .inl (cB, 8192, .inl g)), (aP, .inl (cI, 16, .inl P2_14)), (aL, .inl (cI, 16, .inl L2_15))]) [0, 1, 2, 3] rfl
          have hDc := hD.sub (ws' := [(oS, .inr (1, [.ref aB, .int (nI mz), .ref aP, .ref aL, .int (nI (cn + 1)), .int (nI hs)])), (aB, .inl (cB, 8192, .inl g)), (aP, .inl (cI, 16, .inl P2_14)), (aL, .inl (cI, 16, .inl L2_15))]) [0, 1, 2, 3] (by decide) rfl
          have hFc := va_free (wc := [(oS, .inr (1, [.ref aB, .int (nI mz), .ref aP, .ref aL, .int (nI (cn + 1)), .int (nI hs)])), (aB, .inl (cB, 8192, .inl g)), (aP, .inl (cI, 16, .inl P2_14)), (aL, .inl (cI, 16, .inl L2_15))]) hD hS hA [0, 1, 2, 3] rfl
          refine va_callv (va_runV (As := [.int (nI (max mz ((le + 256 - 1) / 256 * 256)))]) (rest := []) ⟨hx, hb, hml, hown, hts⟩ (c_X1_setSize l dC dI cB cI cJ H.size oS aB aP aL mz (cn + 1) hs g P2_14 L2_15 mem (max mz ((le + 256 - 1) / 256 * 256)) hM (by omega)) (cwV 1 hts gX1_addBlock_X1_setSize rfl rfl rfl (by decide +kernel) ⟨Nat.le_of_ble_eq_true rfl, Nat.le_of_ble_eq_true rfl⟩) ⟨wBlind, va_recv hK hPc (ci := 1) (q0 := 0) rfl rfl, wGo hK hPc hDc hN⟩ rfl rfl hl.1 rfl (lv_room (Nat.le_of_ble_eq_true rfl)) dX1_addBlock_100 ⟨show 0 ≤ 0 by decide, show 0 ≤ 0 by decide⟩) hS (fun q _ h => hFc q h) hFc (fun u t H1 locs ht hvm w_24 hB hz1 hk1 hS => ?_)
          obtain ⟨g2_25, rfl⟩ : ∃ z, z = u := ⟨_, rfl⟩
          obtain ⟨hP1, hD1⟩ := hB
          rw [ht] at hP1
          try dsimp only at w_24
          obtain ⟨hP, hD⟩ := va_join (wr := []) (w1 := [(oS, .inr (1, [.ref aB, .int (nI (max mz ((le + 256 - 1) / 256 * 256))), .ref aP, .ref aL, .int (nI (cn + 1)), .int (nI hs)])), (aB, .inl (cB, 8192, .inl g2_25)), (aP, .inl (cI, 16, .inl P2_14)), (aL, .inl (cI, 16, .inl L2_15))]) hP hD [0, 1, 2, 3] [] rfl rfl (by decide) (by decide) hk1 hFc hP1 hD1
          clear hPc hDc hFc hP1 hD1 hz1 hk1 hvm
          generalize H1 = H at hP hS ⊢
          have hP : va_P (dC, dI) vwCl [(oS, .inr (1, [.ref aB, .int (nI (max mz ((le + 256 - 1) / 256 * 256))), .ref aP, .ref aL, .int (nI (cn + 1)), .int (nI hs)])), (aB, .inl (cB, 8192, .inl g2_25)), (aP, .inl (cI, 16, .inl P2_14)), (aL, .inl (cI, 16, .inl L2_15))] H := hP
          have hD : va_D A [(oS, .inr (1, [.ref aB, .int (nI (max mz ((le + 256 - 1) / 256 * 256))), .ref aP, .ref aL, .int (nI (cn + 1)), .int (nI hs)])), (aB, .inl (cB, 8192, .inl g2_25)), (aP, .inl (cI, 16, .inl P2_14)), (aL, .inl (cI, 16, .inl L2_15))] := hD
          refine lv_iload hx hb dX1_addBlock_103 (lv_at hl 0 rfl) ?_
          have hP9 := hP.sub (ws' := [(oS, .inr (1, [.ref aB, .int (nI (max mz ((le + 256 - 1) / 256 * 256))), .ref aP, .ref aL, .int (nI (cn + 1)), .int (nI hs)])), (aB, .inl (cB, 8192, .inl g2_25)), (aP, .inl (cI, 16, .inl P2_14)), (aL, .inl (cI, 16, .inl L2_15))]) [0, 1, 2, 3] rfl
          have hD9 := hD.sub (ws' := [(oS, .inr (1, [.ref aB, .int (nI (max mz ((le + 256 - 1) / 256 * 256))), .ref aP, .ref aL, .int (nI (cn + 1)), .int (nI hs)])), (aB, .inl (cB, 8192, .inl g2_25)), (aP, .inl (cI, 16, .inl P2_14)), (aL, .inl (cI, 16, .inl L2_15))]) [0, 1, 2, 3] (by decide) rfl
          exact W.iret (v := nI (pl (ix - 1) + ll (ix - 1))) hx hb hr (fun t ht hW => ⟨⟨(nI (pl (ix - 1) + ll (ix - 1))), (g2_25, (max mz ((le + 256 - 1) / 256 * 256)), (cn + 1), hs, P2_14, L2_15), rfl, blk_ok (st := hs) (ix := ix) (by unfold blkS; split <;> omega) hix (by unfold gapP; split <;> omega) (by omega) (by omega) hPl hLl w_13 hle hbm h256 hM (by assumption), by rw [ht]; exact hP9, hD9⟩, hS.F ht⟩) hS.2.2 dX1_addBlock_105
        · skip
          refine lv_iconst (v := nI 0) hx hb dX1_addBlock_64 (by decide) ?_
          have hP9 := hP.sub (ws' := [(oS, .inr (1, [.ref aB, .int (nI mz), .ref aP, .ref aL, .int (nI cn), .int (nI hs)])), (aB, .inl (cB, 8192, .inl g)), (aP, .inl (cI, 16, .inl P)), (aL, .inl (cI, 16, .inl L))]) [0, 1, 2, 3] rfl
          have hD9 := hD.sub (ws' := [(oS, .inr (1, [.ref aB, .int (nI mz), .ref aP, .ref aL, .int (nI cn), .int (nI hs)])), (aB, .inl (cB, 8192, .inl g)), (aP, .inl (cI, 16, .inl P)), (aL, .inl (cI, 16, .inl L))]) [0, 1, 2, 3] (by decide) rfl
          exact W.iret (v := nI 0) hx hb hr (fun t ht hW => ⟨⟨(nI 0), (g, mz, cn, hs, P, L), rfl, blk_no2 (st := hs) (ix := ix) (x := pl (ix - 1) + ll (ix - 1)) (by unfold blkS; split <;> omega) hix (by unfold gapP; split <;> omega) (by omega) hM hPl hLl, by rw [ht]; exact hP9, hD9⟩, hS.F ht⟩) hS.2.2 dX1_addBlock_65
      · skip
        refine lv_iload_n hx hb dX1_addBlock_41 rfl (lv_at hl 1 rfl) ?_
        refine lv_goto (tgt := 52) hx hb dX1_addBlock_42 (by decide) ?_
        refine lv_istore (lv' := [(4, .int (nI hs)), (3, .int (nI ix)), (2, .int (nI hs)), (0, .ref oS), (1, .int (nI n))]) hx hb dX1_addBlock_52 hl (by decide) rfl (fun ls hl => ?_)
        refine lv_iload_n hx hb dX1_addBlock_54 rfl (lv_at hl 4 rfl) ?_
        refine lv_sipush (v := nI 8192) hx hb dX1_addBlock_55 (by decide) ?_
        refine lv_iload hx hb dX1_addBlock_58 (lv_at hl 0 rfl) ?_
        refine wx_isub hx hb dX1_addBlock_60 (by omega) ?_
        refine wx_icmp_le (tgt := 66) hx hb dX1_addBlock_61 (by decide) (by omega) (by omega) (fun c_26 => ?_) (fun c_26 => ?_)
        · skip
          refine lv_aload_n hx hb dX1_addBlock_66 rfl (lv_at hl 3 rfl) ?_
          refine lv_iload_n hx hb dX1_addBlock_67 rfl (lv_at hl 1 rfl) ?_
          refine lv_iload hx hb dX1_addBlock_68 (lv_at hl 0 rfl) ?_
          refine lv_iload_n hx hb dX1_addBlock_70 rfl (lv_at hl 4 rfl) ?_
          have hPc := hP.sub (ws' := [(oS, .inr (1, [.ref aB, .int (nI mz), .ref aP, .ref aL, .int (nI cn), .int (nI hs)])), (aB, .inl (cB, 8192, .inl g)), (aP, .inl (cI, 16, .inl P)), (aL, .inl (cI, 16, .inl L))]) [0, 1, 2, 3] rfl
          have hDc := hD.sub (ws' := [(oS, .inr (1, [.ref aB, .int (nI mz), .ref aP, .ref aL, .int (nI cn), .int (nI hs)])), (aB, .inl (cB, 8192, .inl g)), (aP, .inl (cI, 16, .inl P)), (aL, .inl (cI, 16, .inl L))]) [0, 1, 2, 3] (by decide) rfl
          have hFc := va_free (wc := [(oS, .inr (1, [.ref aB, .int (nI mz), .ref aP, .ref aL, .int (nI cn), .int (nI hs)])), (aB, .inl (cB, 8192, .inl g)), (aP, .inl (cI, 16, .inl P)), (aL, .inl (cI, 16, .inl L))]) hD hS hA [0, 1, 2, 3] rfl
          refine va_callv (va_runV (As := [.int (nI ix), .int (nI hs), .int (nI n)]) (rest := []) ⟨hx, hb, hml, hown, hts⟩ (c_X1_insertBlock l dC dI cB cI cJ H.size oS aB aP aL mz cn hs g P L ix hs n (by omega) (by omega)) (cwV 3 hts gX1_addBlock_X1_insertBlock rfl rfl rfl (by decide +kernel) ⟨Nat.le_of_ble_eq_true rfl, Nat.le_of_ble_eq_true rfl⟩) ⟨wBlind, va_recv hK hPc (ci := 1) (q0 := 0) rfl rfl, wGo hK hPc hDc hN⟩ rfl rfl hl.1 rfl (lv_room (Nat.le_of_ble_eq_true rfl)) dX1_addBlock_71 ⟨show 0 ≤ 0 by decide, show 0 ≤ 0 by decide⟩) hS (fun q _ h => hFc q h) hFc (fun u t H1 locs ht hvm w_29 hB hz1 hk1 hS => ?_)
          obtain ⟨P2_30, L2_31⟩ := u
          obtain ⟨hP1, hD1⟩ := hB
          rw [ht] at hP1
          try dsimp only at w_29
          obtain ⟨hP, hD⟩ := va_join (wr := []) (w1 := [(oS, .inr (1, [.ref aB, .int (nI mz), .ref aP, .ref aL, .int (nI (cn + 1)), .int (nI hs)])), (aB, .inl (cB, 8192, .inl g)), (aP, .inl (cI, 16, .inl P2_30)), (aL, .inl (cI, 16, .inl L2_31))]) hP hD [0, 1, 2, 3] [] rfl rfl (by decide) (by decide) hk1 hFc hP1 hD1
          clear hPc hDc hFc hP1 hD1 hz1 hk1 hvm
          generalize H1 = H at hP hS ⊢
          have hP : va_P (dC, dI) vwCl [(oS, .inr (1, [.ref aB, .int (nI mz), .ref aP, .ref aL, .int (nI (cn + 1)), .int (nI hs)])), (aB, .inl (cB, 8192, .inl g)), (aP, .inl (cI, 16, .inl P2_30)), (aL, .inl (cI, 16, .inl L2_31))] H := hP
          have hD : va_D A [(oS, .inr (1, [.ref aB, .int (nI mz), .ref aP, .ref aL, .int (nI (cn + 1)), .int (nI hs)])), (aB, .inl (cB, 8192, .inl g)), (aP, .inl (cI, 16, .inl P2_30)), (aL, .inl (cI, 16, .inl L2_31))] := hD
          refine lv_aload_n hx hb dX1_addBlock_74 rfl (lv_at hl 3 rfl) ?_
          refine lv_iload_n hx hb dX1_addBlock_75 rfl (lv_at hl 2 rfl) ?_
          refine va_put (D := (dC, dI)) (ci := 1) (v := .int (nI hs)) (ty := .int) (C := RX1) (T := TX1) (N := 6) hx hb hts (by decide +kernel) tyX1 tyX1_ok nmX1 hown hK hP hD hS 0 rfl rfl 5 (by decide) (hts (.fieldLink RX1 29 "GlulxHeads$State" "heapStart" "I") (by decide +kernel)) (fun _ h9 => h9) rfl (by decide +kernel) rfl rfl (Nat.le_of_ble_eq_true rfl) dX1_addBlock_76 (fun H locs hP hD hS => ?_)
          have hP : va_P (dC, dI) vwCl [(oS, .inr (1, [.ref aB, .int (nI mz), .ref aP, .ref aL, .int (nI (cn + 1)), .int (nI hs)])), (aB, .inl (cB, 8192, .inl g)), (aP, .inl (cI, 16, .inl P2_30)), (aL, .inl (cI, 16, .inl L2_31))] H := hP
          have hD : va_D A [(oS, .inr (1, [.ref aB, .int (nI mz), .ref aP, .ref aL, .int (nI (cn + 1)), .int (nI hs)])), (aB, .inl (cB, 8192, .inl g)), (aP, .inl (cI, 16, .inl P2_30)), (aL, .inl (cI, 16, .inl L2_31))] := hD
          refine lv_aload_n hx hb dX1_addBlock_79 rfl (lv_at hl 3 rfl) ?_
          refine lv_aload_n hx hb dX1_addBlock_80 rfl (lv_at hl 3 rfl) ?_
          refine va_get (D := (dC, dI)) (ci := 1) (v := .int (nI mz)) (C := RX1) (T := TX1) (N := 6) hx hb hts (by decide +kernel) hown hK hP 0 rfl rfl 1 (by decide) (hts (.fieldLink RX1 15 "GlulxHeads$State" "size" "I") (by decide +kernel)) (fun _ h9 => h9) rfl dX1_addBlock_81 ?_
          refine lv_aload_n hx hb dX1_addBlock_84 rfl (lv_at hl 3 rfl) ?_
          refine lv_aload_n hx hb dX1_addBlock_85 rfl (lv_at hl 3 rfl) ?_
          refine va_get (D := (dC, dI)) (ci := 1) (v := .int (nI (cn + 1))) (C := RX1) (T := TX1) (N := 6) hx hb hts (by decide +kernel) hown hK hP 0 rfl rfl 4 (by decide) (hts (.fieldLink RX1 26 "GlulxHeads$State" "blockCount" "I") (by decide +kernel)) (fun _ h9 => h9) rfl dX1_addBlock_86 ?_
          refine lv_iconst (v := nI 1) hx hb dX1_addBlock_89 (by decide) ?_
          refine wx_isub hx hb dX1_addBlock_90 (by omega) ?_
          have hPc := hP.sub (ws' := [(oS, .inr (1, [.ref aB, .int (nI mz), .ref aP, .ref aL, .int (nI (cn + 1)), .int (nI hs)])), (aB, .inl (cB, 8192, .inl g)), (aP, .inl (cI, 16, .inl P2_30)), (aL, .inl (cI, 16, .inl L2_31))]) [0, 1, 2, 3] rfl
          have hDc := hD.sub (ws' := [(oS, .inr (1, [.ref aB, .int (nI mz), .ref aP, .ref aL, .int (nI (cn + 1)), .int (nI hs)])), (aB, .inl (cB, 8192, .inl g)), (aP, .inl (cI, 16, .inl P2_30)), (aL, .inl (cI, 16, .inl L2_31))]) [0, 1, 2, 3] (by decide) rfl
          have hFc := va_free (wc := [(oS, .inr (1, [.ref aB, .int (nI mz), .ref aP, .ref aL, .int (nI (cn + 1)), .int (nI hs)])), (aB, .inl (cB, 8192, .inl g)), (aP, .inl (cI, 16, .inl P2_30)), (aL, .inl (cI, 16, .inl L2_31))]) hD hS hA [0, 1, 2, 3] rfl
          refine va_calli (va_runV (As := [.int (nI ((cn + 1) - 1))]) (rest := [.int (nI mz), .ref oS]) ⟨hx, hb, hml, hown, hts⟩ (c_X1_blockEnd l dC dI cB cI cJ H.size oS aB aP aL mz (cn + 1) hs g P2_30 L2_31 ((cn + 1) - 1) (by omega)) (cwV 1 hts gX1_addBlock_X1_blockEnd rfl rfl rfl (by decide +kernel) ⟨Nat.le_of_ble_eq_true rfl, Nat.le_of_ble_eq_true rfl⟩) ⟨wBlind, va_recv hK hPc (ci := 1) (q0 := 0) rfl rfl, wGo hK hPc hDc hN⟩ rfl rfl hl.1 rfl (lv_room (Nat.le_of_ble_eq_true rfl)) dX1_addBlock_91 ⟨show 0 ≤ 0 by decide, show 0 ≤ 0 by decide⟩) hS (fun q _ h => hFc q h) hFc (fun r_33 u t H1 locs ht hvm w_34 hB hz1 hk1 hS => ?_)
          clear u
          obtain ⟨hP1, hD1⟩ := hB
          rw [ht] at hP1
          try dsimp only at w_34
          obtain ⟨hP, hD⟩ := va_join (wr := []) (w1 := [(oS, .inr (1, [.ref aB, .int (nI mz), .ref aP, .ref aL, .int (nI (cn + 1)), .int (nI hs)])), (aB, .inl (cB, 8192, .inl g)), (aP, .inl (cI, 16, .inl P2_30)), (aL, .inl (cI, 16, .inl L2_31))]) hP hD [0, 1, 2, 3] [] rfl rfl (by decide) (by decide) hk1 hFc hP1 hD1
          clear hPc hDc hFc hP1 hD1 hz1 hk1 hvm
          generalize H1 = H at hP hS ⊢
          have hP : va_P (dC, dI) vwCl [(oS, .inr (1, [.ref aB, .int (nI mz), .ref aP, .ref aL, .int (nI (cn + 1)), .int (nI hs)])), (aB, .inl (cB, 8192, .inl g)), (aP, .inl (cI, 16, .inl P2_30)), (aL, .inl (cI, 16, .inl L2_31))] H := hP
          have hD : va_D A [(oS, .inr (1, [.ref aB, .int (nI mz), .ref aP, .ref aL, .int (nI (cn + 1)), .int (nI hs)])), (aB, .inl (cB, 8192, .inl g)), (aP, .inl (cI, 16, .inl P2_30)), (aL, .inl (cI, 16, .inl L2_31))] := hD
          obtain ⟨le, hle⟩ : ∃ le, le = (if ix = cn then (hs) + n else pl (cn - 1) + ll (cn - 1)) := ⟨_, rfl⟩
          have hle3 : le ≤ 8192 := last_le hle (by omega) (by omega) hbd
          rw [last_end (by omega) hPl hLl w_29, ← hle] at w_34
          subst w_34
          have hPc := hP.sub (ws' := []) [] rfl
          have hDc := hD.sub (ws' := []) [] (by decide) rfl
          have hFc := va_free (wc := []) hD hS hA [] rfl
          refine va_calli (va_runS (As := [.int (nI le)]) (rest := [.int (nI mz), .ref oS]) ⟨hx, hb, hml, hown, hts⟩ (c_X1_roundUp l dC dI cB cI cJ H.size le (by omega)) (va_cwS 1 hts gX1_addBlock_X1_roundUp rfl rfl rfl (by decide +kernel) ⟨Nat.le_of_ble_eq_true rfl, Nat.le_of_ble_eq_true rfl⟩) ⟨wBlind, wGo hK hPc hDc hN⟩ rfl rfl hl.1 rfl (lv_room (Nat.le_of_ble_eq_true rfl)) dX1_addBlock_94 ⟨show 0 ≤ 0 by decide, show 0 ≤ 0 by decide⟩) hS (fun q _ h => hFc q h) hFc (fun r_36 u t H1 locs ht hvm w_37 hB hz1 hk1 hS => ?_)
          clear u
          obtain ⟨hP1, hD1⟩ := hB
          rw [ht] at hP1
          try dsimp only at w_37
          obtain ⟨hP, hD⟩ := va_join (wr := [(oS, .inr (1, [.ref aB, .int (nI mz), .ref aP, .ref aL, .int (nI (cn + 1)), .int (nI hs)])), (aB, .inl (cB, 8192, .inl g)), (aP, .inl (cI, 16, .inl P2_30)), (aL, .inl (cI, 16, .inl L2_31))]) (w1 := []) hP hD [] [0, 1, 2, 3] rfl rfl (by decide) (by decide) hk1 hFc hP1 hD1
          clear hPc hDc hFc hP1 hD1 hz1 hk1 hvm
          generalize H1 = H at hP hS ⊢
          have hP : va_P (dC, dI) vwCl [(oS, .inr (1, [.ref aB, .int (nI mz), .ref aP, .ref aL, .int (nI (cn + 1)), .int (nI hs)])), (aB, .inl (cB, 8192, .inl g)), (aP, .inl (cI, 16, .inl P2_30)), (aL, .inl (cI, 16, .inl L2_31))] H := hP
          have hD : va_D A [(oS, .inr (1, [.ref aB, .int (nI mz), .ref aP, .ref aL, .int (nI (cn + 1)), .int (nI hs)])), (aB, .inl (cB, 8192, .inl g)), (aP, .inl (cI, 16, .inl P2_30)), (aL, .inl (cI, 16, .inl L2_31))] := hD
          subst w_37
          refine va_mmax hx hb (by rw [hml]; exact hl.1.symm) hown (hts (.methodLink RX1 60 Lib.Math.max.name) (by decide +kernel)) (hts (.static Lib.Math.max.name) (by decide +kernel)) (hts (.initialized "java/lang/Math") (by decide +kernel)) (hts (.code Lib.Math.max.name Lib.Math.max.code 2 (some .int)) (List.mem_of_getElem? (i := 7) rfl)) (Nat.le_of_ble_eq_true rfl) (Nat.le_of_ble_eq_true rfl) (Nat.le_of_ble_eq_true rfl) (Nat.le_of_ble_eq_true rfl) dX1_addBlock_97 ?_
          refine wx_top (wm_max (by omega) (by omega)) ?_
          have hPc := hP.sub (ws' := [(oS, .inr (1, [.ref aB, .int (nI mz), .ref aP, .ref aL, .int (nI (cn + 1)), .int (nI hs)])), (aB, .inl (cB, 8192, .inl g)), (aP, .inl (cI, 16, .inl P2_30)), (aL, .inl (cI, 16, .inl L2_31))]) [0, 1, 2, 3] rfl
          have hDc := hD.sub (ws' := [(oS, .inr (1, [.ref aB, .int (nI mz), .ref aP, .ref aL, .int (nI (cn + 1)), .int (nI hs)])), (aB, .inl (cB, 8192, .inl g)), (aP, .inl (cI, 16, .inl P2_30)), (aL, .inl (cI, 16, .inl L2_31))]) [0, 1, 2, 3] (by decide) rfl
          have hFc := va_free (wc := [(oS, .inr (1, [.ref aB, .int (nI mz), .ref aP, .ref aL, .int (nI (cn + 1)), .int (nI hs)])), (aB, .inl (cB, 8192, .inl g)), (aP, .inl (cI, 16, .inl P2_30)), (aL, .inl (cI, 16, .inl L2_31))]) hD hS hA [0, 1, 2, 3] rfl
          refine va_callv (va_runV (As := [.int (nI (max mz ((le + 256 - 1) / 256 * 256)))]) (rest := []) ⟨hx, hb, hml, hown, hts⟩ (c_X1_setSize l dC dI cB cI cJ H.size oS aB aP aL mz (cn + 1) hs g P2_30 L2_31 mem (max mz ((le + 256 - 1) / 256 * 256)) hM (by omega)) (cwV 1 hts gX1_addBlock_X1_setSize rfl rfl rfl (by decide +kernel) ⟨Nat.le_of_ble_eq_true rfl, Nat.le_of_ble_eq_true rfl⟩) ⟨wBlind, va_recv hK hPc (ci := 1) (q0 := 0) rfl rfl, wGo hK hPc hDc hN⟩ rfl rfl hl.1 rfl (lv_room (Nat.le_of_ble_eq_true rfl)) dX1_addBlock_100 ⟨show 0 ≤ 0 by decide, show 0 ≤ 0 by decide⟩) hS (fun q _ h => hFc q h) hFc (fun u t H1 locs ht hvm w_40 hB hz1 hk1 hS => ?_)
          obtain ⟨g2_41, rfl⟩ : ∃ z, z = u := ⟨_, rfl⟩
          obtain ⟨hP1, hD1⟩ := hB
          rw [ht] at hP1
          try dsimp only at w_40
          obtain ⟨hP, hD⟩ := va_join (wr := []) (w1 := [(oS, .inr (1, [.ref aB, .int (nI (max mz ((le + 256 - 1) / 256 * 256))), .ref aP, .ref aL, .int (nI (cn + 1)), .int (nI hs)])), (aB, .inl (cB, 8192, .inl g2_41)), (aP, .inl (cI, 16, .inl P2_30)), (aL, .inl (cI, 16, .inl L2_31))]) hP hD [0, 1, 2, 3] [] rfl rfl (by decide) (by decide) hk1 hFc hP1 hD1
          clear hPc hDc hFc hP1 hD1 hz1 hk1 hvm
          generalize H1 = H at hP hS ⊢
          have hP : va_P (dC, dI) vwCl [(oS, .inr (1, [.ref aB, .int (nI (max mz ((le + 256 - 1) / 256 * 256))), .ref aP, .ref aL, .int (nI (cn + 1)), .int (nI hs)])), (aB, .inl (cB, 8192, .inl g2_41)), (aP, .inl (cI, 16, .inl P2_30)), (aL, .inl (cI, 16, .inl L2_31))] H := hP
          have hD : va_D A [(oS, .inr (1, [.ref aB, .int (nI (max mz ((le + 256 - 1) / 256 * 256))), .ref aP, .ref aL, .int (nI (cn + 1)), .int (nI hs)])), (aB, .inl (cB, 8192, .inl g2_41)), (aP, .inl (cI, 16, .inl P2_30)), (aL, .inl (cI, 16, .inl L2_31))] := hD
          refine lv_iload hx hb dX1_addBlock_103 (lv_at hl 0 rfl) ?_
          have hP9 := hP.sub (ws' := [(oS, .inr (1, [.ref aB, .int (nI (max mz ((le + 256 - 1) / 256 * 256))), .ref aP, .ref aL, .int (nI (cn + 1)), .int (nI hs)])), (aB, .inl (cB, 8192, .inl g2_41)), (aP, .inl (cI, 16, .inl P2_30)), (aL, .inl (cI, 16, .inl L2_31))]) [0, 1, 2, 3] rfl
          have hD9 := hD.sub (ws' := [(oS, .inr (1, [.ref aB, .int (nI (max mz ((le + 256 - 1) / 256 * 256))), .ref aP, .ref aL, .int (nI (cn + 1)), .int (nI hs)])), (aB, .inl (cB, 8192, .inl g2_41)), (aP, .inl (cI, 16, .inl P2_30)), (aL, .inl (cI, 16, .inl L2_31))]) [0, 1, 2, 3] (by decide) rfl
          exact W.iret (v := nI hs) hx hb hr (fun t ht hW => ⟨⟨(nI hs), (g2_41, (max mz ((le + 256 - 1) / 256 * 256)), (cn + 1), hs, P2_30, L2_31), rfl, blk_ok (st := hs) (ix := ix) (by unfold blkS; split <;> omega) hix (by unfold gapP; split <;> omega) (by omega) (by omega) hPl hLl w_29 hle hbm h256 hM (by assumption), by rw [ht]; exact hP9, hD9⟩, hS.F ht⟩) hS.2.2 dX1_addBlock_105
        · skip
          refine lv_iconst (v := nI 0) hx hb dX1_addBlock_64 (by decide) ?_
          have hP9 := hP.sub (ws' := [(oS, .inr (1, [.ref aB, .int (nI mz), .ref aP, .ref aL, .int (nI cn), .int (nI hs)])), (aB, .inl (cB, 8192, .inl g)), (aP, .inl (cI, 16, .inl P)), (aL, .inl (cI, 16, .inl L))]) [0, 1, 2, 3] rfl
          have hD9 := hD.sub (ws' := [(oS, .inr (1, [.ref aB, .int (nI mz), .ref aP, .ref aL, .int (nI cn), .int (nI hs)])), (aB, .inl (cB, 8192, .inl g)), (aP, .inl (cI, 16, .inl P)), (aL, .inl (cI, 16, .inl L))]) [0, 1, 2, 3] (by decide) rfl
          exact W.iret (v := nI 0) hx hb hr (fun t ht hW => ⟨⟨(nI 0), (g, mz, cn, hs, P, L), rfl, blk_no2 (st := hs) (ix := ix) (x := hs) (by unfold blkS; split <;> omega) hix (by unfold gapP; split <;> omega) (by omega) hM hPl hLl, by rw [ht]; exact hP9, hD9⟩, hS.F ht⟩) hS.2.2 dX1_addBlock_65
    · skip
      refine lv_aload_n hx hb dX1_addBlock_18 rfl (lv_at hl 0 rfl) ?_
      refine va_get (D := (dC, dI)) (ci := 1) (v := .int (nI mz)) (C := RX1) (T := TX1) (N := 6) hx hb hts (by decide +kernel) hown hK hP 0 rfl rfl 1 (by decide) (hts (.fieldLink RX1 15 "GlulxHeads$State" "size" "I") (by decide +kernel)) (fun _ h9 => h9) rfl dX1_addBlock_19 ?_
      refine lv_goto (tgt := 29) hx hb dX1_addBlock_22 (by decide) ?_
      refine lv_istore_n (lv' := [(2, .int (nI mz)), (0, .ref oS), (1, .int (nI n))]) hx hb dX1_addBlock_29 rfl hl (by decide) rfl (fun ls hl => ?_)
      refine lv_aload_n hx hb dX1_addBlock_30 rfl (lv_at hl 1 rfl) ?_
      refine lv_iload_n hx hb dX1_addBlock_31 rfl (lv_at hl 2 rfl) ?_
      refine lv_iload_n hx hb dX1_addBlock_32 rfl (lv_at hl 0 rfl) ?_
      have hPc := hP.sub (ws' := [(oS, .inr (1, [.ref aB, .int (nI mz), .ref aP, .ref aL, .int (nI cn), .int (nI hs)])), (aB, .inl (cB, 8192, .inl g)), (aP, .inl (cI, 16, .inl P)), (aL, .inl (cI, 16, .inl L))]) [0, 1, 2, 3] rfl
      have hDc := hD.sub (ws' := [(oS, .inr (1, [.ref aB, .int (nI mz), .ref aP, .ref aL, .int (nI cn), .int (nI hs)])), (aB, .inl (cB, 8192, .inl g)), (aP, .inl (cI, 16, .inl P)), (aL, .inl (cI, 16, .inl L))]) [0, 1, 2, 3] (by decide) rfl
      have hFc := va_free (wc := [(oS, .inr (1, [.ref aB, .int (nI mz), .ref aP, .ref aL, .int (nI cn), .int (nI hs)])), (aB, .inl (cB, 8192, .inl g)), (aP, .inl (cI, 16, .inl P)), (aL, .inl (cI, 16, .inl L))]) hD hS hA [0, 1, 2, 3] rfl
      refine va_calli (va_runV (As := [.int (nI n), .int (nI mz)]) (rest := []) ⟨hx, hb, hml, hown, hts⟩ (c_X1_gapFor l dC dI cB cI cJ s.heap.size oS aB aP aL mz cn hs g P L pl ll n mz (by omega) hPl hLl hbd (by omega) (by omega)) (cwV 2 hts gX1_addBlock_X1_gapFor rfl rfl rfl (by decide +kernel) ⟨Nat.le_of_ble_eq_true rfl, Nat.le_of_ble_eq_true rfl⟩) ⟨wBlind, va_recv hK hPc (ci := 1) (q0 := 0) rfl rfl, wGo hK hPc hDc hN⟩ rfl rfl hl.1 rfl (lv_room (Nat.le_of_ble_eq_true rfl)) dX1_addBlock_33 ⟨show 0 ≤ 0 by decide, show 0 ≤ 0 by decide⟩) hS (fun q _ h => hFc q h) hFc (fun r_43 u t H1 locs ht hvm w_44 hB hz1 hk1 hS => ?_)
      clear u
      obtain ⟨hP1, hD1⟩ := hB
      rw [ht] at hP1
      try dsimp only at w_44
      obtain ⟨hP, hD⟩ := va_join (wr := []) (w1 := [(oS, .inr (1, [.ref aB, .int (nI mz), .ref aP, .ref aL, .int (nI cn), .int (nI hs)])), (aB, .inl (cB, 8192, .inl g)), (aP, .inl (cI, 16, .inl P)), (aL, .inl (cI, 16, .inl L))]) hP hD [0, 1, 2, 3] [] rfl rfl (by decide) (by decide) hk1 hFc hP1 hD1
      clear hPc hDc hFc hP1 hD1 hz1 hk1 hvm
      generalize H1 = H at hP hS ⊢
      have hP : va_P (dC, dI) vwCl [(oS, .inr (1, [.ref aB, .int (nI mz), .ref aP, .ref aL, .int (nI cn), .int (nI hs)])), (aB, .inl (cB, 8192, .inl g)), (aP, .inl (cI, 16, .inl P)), (aL, .inl (cI, 16, .inl L))] H := hP
      have hD : va_D A [(oS, .inr (1, [.ref aB, .int (nI mz), .ref aP, .ref aL, .int (nI cn), .int (nI hs)])), (aB, .inl (cB, 8192, .inl g)), (aP, .inl (cI, 16, .inl P)), (aL, .inl (cI, 16, .inl L))] := hD
      obtain ⟨ix, hix⟩ : ∃ ix, ix = gapI pl ll n cn 0 mz := ⟨_, rfl⟩
      have hgl := gapI_le (pl := pl) (ll := ll) (n := n) cn 0 mz
      rw [← hix] at w_44 hgl
      subst w_44
      refine lv_istore_n (lv' := [(3, .int (nI ix)), (2, .int (nI mz)), (0, .ref oS), (1, .int (nI n))]) hx hb dX1_addBlock_36 rfl hl (by decide) rfl (fun ls hl => ?_)
      refine lv_iload_n hx hb dX1_addBlock_37 rfl (lv_at hl 0 rfl) ?_
      refine wx_if_ne (tgt := 45) hx hb dX1_addBlock_38 (by decide) (by omega) (fun c_45 => ?_) (fun c_45 => ?_)
      · skip
        refine lv_aload_n hx hb dX1_addBlock_45 rfl (lv_at hl 2 rfl) ?_
        refine lv_iload_n hx hb dX1_addBlock_46 rfl (lv_at hl 0 rfl) ?_
        refine lv_iconst (v := nI 1) hx hb dX1_addBlock_47 (by decide) ?_
        refine wx_isub hx hb dX1_addBlock_48 (by omega) ?_
        have hPc := hP.sub (ws' := [(oS, .inr (1, [.ref aB, .int (nI mz), .ref aP, .ref aL, .int (nI cn), .int (nI hs)])), (aB, .inl (cB, 8192, .inl g)), (aP, .inl (cI, 16, .inl P)), (aL, .inl (cI, 16, .inl L))]) [0, 1, 2, 3] rfl
        have hDc := hD.sub (ws' := [(oS, .inr (1, [.ref aB, .int (nI mz), .ref aP, .ref aL, .int (nI cn), .int (nI hs)])), (aB, .inl (cB, 8192, .inl g)), (aP, .inl (cI, 16, .inl P)), (aL, .inl (cI, 16, .inl L))]) [0, 1, 2, 3] (by decide) rfl
        have hFc := va_free (wc := [(oS, .inr (1, [.ref aB, .int (nI mz), .ref aP, .ref aL, .int (nI cn), .int (nI hs)])), (aB, .inl (cB, 8192, .inl g)), (aP, .inl (cI, 16, .inl P)), (aL, .inl (cI, 16, .inl L))]) hD hS hA [0, 1, 2, 3] rfl
        refine va_calli (va_runV (As := [.int (nI (ix - 1))]) (rest := []) ⟨hx, hb, hml, hown, hts⟩ (c_X1_blockEnd l dC dI cB cI cJ H.size oS aB aP aL mz cn hs g P L (ix - 1) (by omega)) (cwV 1 hts gX1_addBlock_X1_blockEnd rfl rfl rfl (by decide +kernel) ⟨Nat.le_of_ble_eq_true rfl, Nat.le_of_ble_eq_true rfl⟩) ⟨wBlind, va_recv hK hPc (ci := 1) (q0 := 0) rfl rfl, wGo hK hPc hDc hN⟩ rfl rfl hl.1 rfl (lv_room (Nat.le_of_ble_eq_true rfl)) dX1_addBlock_49 ⟨show 0 ≤ 0 by decide, show 0 ≤ 0 by decide⟩) hS (fun q _ h => hFc q h) hFc (fun r_47 u t H1 locs ht hvm w_48 hB hz1 hk1 hS => ?_)
        clear u
        obtain ⟨hP1, hD1⟩ := hB
        rw [ht] at hP1
        try dsimp only at w_48
        obtain ⟨hP, hD⟩ := va_join (wr := []) (w1 := [(oS, .inr (1, [.ref aB, .int (nI mz), .ref aP, .ref aL, .int (nI cn), .int (nI hs)])), (aB, .inl (cB, 8192, .inl g)), (aP, .inl (cI, 16, .inl P)), (aL, .inl (cI, 16, .inl L))]) hP hD [0, 1, 2, 3] [] rfl rfl (by decide) (by decide) hk1 hFc hP1 hD1
        clear hPc hDc hFc hP1 hD1 hz1 hk1 hvm
        generalize H1 = H at hP hS ⊢
        have hP : va_P (dC, dI) vwCl [(oS, .inr (1, [.ref aB, .int (nI mz), .ref aP, .ref aL, .int (nI cn), .int (nI hs)])), (aB, .inl (cB, 8192, .inl g)), (aP, .inl (cI, 16, .inl P)), (aL, .inl (cI, 16, .inl L))] H := hP
        have hD : va_D A [(oS, .inr (1, [.ref aB, .int (nI mz), .ref aP, .ref aL, .int (nI cn), .int (nI hs)])), (aB, .inl (cB, 8192, .inl g)), (aP, .inl (cI, 16, .inl P)), (aL, .inl (cI, 16, .inl L))] := hD
        rw [hPl (ix - 1) (by omega), hLl (ix - 1) (by omega), nI_add] at w_48
        have hb1 := hbd (ix - 1) (by omega)
        subst w_48
        refine lv_istore (lv' := [(4, .int (nI (pl (ix - 1) + ll (ix - 1)))), (3, .int (nI ix)), (2, .int (nI mz)), (0, .ref oS), (1, .int (nI n))]) hx hb dX1_addBlock_52 hl (by decide) rfl (fun ls hl => ?_)
        refine lv_iload_n hx hb dX1_addBlock_54 rfl (lv_at hl 4 rfl) ?_
        refine lv_sipush (v := nI 8192) hx hb dX1_addBlock_55 (by decide) ?_
        refine lv_iload hx hb dX1_addBlock_58 (lv_at hl 0 rfl) ?_
        refine wx_isub hx hb dX1_addBlock_60 (by omega) ?_
        refine wx_icmp_le (tgt := 66) hx hb dX1_addBlock_61 (by decide) (by omega) (by omega) (fun c_49 => ?_) (fun c_49 => ?_)
        · skip
          refine lv_aload_n hx hb dX1_addBlock_66 rfl (lv_at hl 3 rfl) ?_
          refine lv_iload_n hx hb dX1_addBlock_67 rfl (lv_at hl 1 rfl) ?_
          refine lv_iload hx hb dX1_addBlock_68 (lv_at hl 0 rfl) ?_
          refine lv_iload_n hx hb dX1_addBlock_70 rfl (lv_at hl 4 rfl) ?_
          have hPc := hP.sub (ws' := [(oS, .inr (1, [.ref aB, .int (nI mz), .ref aP, .ref aL, .int (nI cn), .int (nI hs)])), (aB, .inl (cB, 8192, .inl g)), (aP, .inl (cI, 16, .inl P)), (aL, .inl (cI, 16, .inl L))]) [0, 1, 2, 3] rfl
          have hDc := hD.sub (ws' := [(oS, .inr (1, [.ref aB, .int (nI mz), .ref aP, .ref aL, .int (nI cn), .int (nI hs)])), (aB, .inl (cB, 8192, .inl g)), (aP, .inl (cI, 16, .inl P)), (aL, .inl (cI, 16, .inl L))]) [0, 1, 2, 3] (by decide) rfl
          have hFc := va_free (wc := [(oS, .inr (1, [.ref aB, .int (nI mz), .ref aP, .ref aL, .int (nI cn), .int (nI hs)])), (aB, .inl (cB, 8192, .inl g)), (aP, .inl (cI, 16, .inl P)), (aL, .inl (cI, 16, .inl L))]) hD hS hA [0, 1, 2, 3] rfl
          refine va_callv (va_runV (As := [.int (nI ix), .int (nI (pl (ix - 1) + ll (ix - 1))), .int (nI n)]) (rest := []) ⟨hx, hb, hml, hown, hts⟩ (c_X1_insertBlock l dC dI cB cI cJ H.size oS aB aP aL mz cn hs g P L ix (pl (ix - 1) + ll (ix - 1)) n (by omega) (by omega)) (cwV 3 hts gX1_addBlock_X1_insertBlock rfl rfl rfl (by decide +kernel) ⟨Nat.le_of_ble_eq_true rfl, Nat.le_of_ble_eq_true rfl⟩) ⟨wBlind, va_recv hK hPc (ci := 1) (q0 := 0) rfl rfl, wGo hK hPc hDc hN⟩ rfl rfl hl.1 rfl (lv_room (Nat.le_of_ble_eq_true rfl)) dX1_addBlock_71 ⟨show 0 ≤ 0 by decide, show 0 ≤ 0 by decide⟩) hS (fun q _ h => hFc q h) hFc (fun u t H1 locs ht hvm w_52 hB hz1 hk1 hS => ?_)
          obtain ⟨P2_53, L2_54⟩ := u
          obtain ⟨hP1, hD1⟩ := hB
          rw [ht] at hP1
          try dsimp only at w_52
          obtain ⟨hP, hD⟩ := va_join (wr := []) (w1 := [(oS, .inr (1, [.ref aB, .int (nI mz), .ref aP, .ref aL, .int (nI (cn + 1)), .int (nI hs)])), (aB, .inl (cB, 8192, .inl g)), (aP, .inl (cI, 16, .inl P2_53)), (aL, .inl (cI, 16, .inl L2_54))]) hP hD [0, 1, 2, 3] [] rfl rfl (by decide) (by decide) hk1 hFc hP1 hD1
          clear hPc hDc hFc hP1 hD1 hz1 hk1 hvm
          generalize H1 = H at hP hS ⊢
          have hP : va_P (dC, dI) vwCl [(oS, .inr (1, [.ref aB, .int (nI mz), .ref aP, .ref aL, .int (nI (cn + 1)), .int (nI hs)])), (aB, .inl (cB, 8192, .inl g)), (aP, .inl (cI, 16, .inl P2_53)), (aL, .inl (cI, 16, .inl L2_54))] H := hP
          have hD : va_D A [(oS, .inr (1, [.ref aB, .int (nI mz), .ref aP, .ref aL, .int (nI (cn + 1)), .int (nI hs)])), (aB, .inl (cB, 8192, .inl g)), (aP, .inl (cI, 16, .inl P2_53)), (aL, .inl (cI, 16, .inl L2_54))] := hD
          refine lv_aload_n hx hb dX1_addBlock_74 rfl (lv_at hl 3 rfl) ?_
          refine lv_iload_n hx hb dX1_addBlock_75 rfl (lv_at hl 2 rfl) ?_
          refine va_put (D := (dC, dI)) (ci := 1) (v := .int (nI mz)) (ty := .int) (C := RX1) (T := TX1) (N := 6) hx hb hts (by decide +kernel) tyX1 tyX1_ok nmX1 hown hK hP hD hS 0 rfl rfl 5 (by decide) (hts (.fieldLink RX1 29 "GlulxHeads$State" "heapStart" "I") (by decide +kernel)) (fun _ h9 => h9) rfl (by decide +kernel) rfl rfl (Nat.le_of_ble_eq_true rfl) dX1_addBlock_76 (fun H locs hP hD hS => ?_)
          have hP : va_P (dC, dI) vwCl [(oS, .inr (1, [.ref aB, .int (nI mz), .ref aP, .ref aL, .int (nI (cn + 1)), .int (nI mz)])), (aB, .inl (cB, 8192, .inl g)), (aP, .inl (cI, 16, .inl P2_53)), (aL, .inl (cI, 16, .inl L2_54))] H := hP
          have hD : va_D A [(oS, .inr (1, [.ref aB, .int (nI mz), .ref aP, .ref aL, .int (nI (cn + 1)), .int (nI mz)])), (aB, .inl (cB, 8192, .inl g)), (aP, .inl (cI, 16, .inl P2_53)), (aL, .inl (cI, 16, .inl L2_54))] := hD
          refine lv_aload_n hx hb dX1_addBlock_79 rfl (lv_at hl 3 rfl) ?_
          refine lv_aload_n hx hb dX1_addBlock_80 rfl (lv_at hl 3 rfl) ?_
          refine va_get (D := (dC, dI)) (ci := 1) (v := .int (nI mz)) (C := RX1) (T := TX1) (N := 6) hx hb hts (by decide +kernel) hown hK hP 0 rfl rfl 1 (by decide) (hts (.fieldLink RX1 15 "GlulxHeads$State" "size" "I") (by decide +kernel)) (fun _ h9 => h9) rfl dX1_addBlock_81 ?_
          refine lv_aload_n hx hb dX1_addBlock_84 rfl (lv_at hl 3 rfl) ?_
          refine lv_aload_n hx hb dX1_addBlock_85 rfl (lv_at hl 3 rfl) ?_
          refine va_get (D := (dC, dI)) (ci := 1) (v := .int (nI (cn + 1))) (C := RX1) (T := TX1) (N := 6) hx hb hts (by decide +kernel) hown hK hP 0 rfl rfl 4 (by decide) (hts (.fieldLink RX1 26 "GlulxHeads$State" "blockCount" "I") (by decide +kernel)) (fun _ h9 => h9) rfl dX1_addBlock_86 ?_
          refine lv_iconst (v := nI 1) hx hb dX1_addBlock_89 (by decide) ?_
          refine wx_isub hx hb dX1_addBlock_90 (by omega) ?_
          have hPc := hP.sub (ws' := [(oS, .inr (1, [.ref aB, .int (nI mz), .ref aP, .ref aL, .int (nI (cn + 1)), .int (nI mz)])), (aB, .inl (cB, 8192, .inl g)), (aP, .inl (cI, 16, .inl P2_53)), (aL, .inl (cI, 16, .inl L2_54))]) [0, 1, 2, 3] rfl
          have hDc := hD.sub (ws' := [(oS, .inr (1, [.ref aB, .int (nI mz), .ref aP, .ref aL, .int (nI (cn + 1)), .int (nI mz)])), (aB, .inl (cB, 8192, .inl g)), (aP, .inl (cI, 16, .inl P2_53)), (aL, .inl (cI, 16, .inl L2_54))]) [0, 1, 2, 3] (by decide) rfl
          have hFc := va_free (wc := [(oS, .inr (1, [.ref aB, .int (nI mz), .ref aP, .ref aL, .int (nI (cn + 1)), .int (nI mz)])), (aB, .inl (cB, 8192, .inl g)), (aP, .inl (cI, 16, .inl P2_53)), (aL, .inl (cI, 16, .inl L2_54))]) hD hS hA [0, 1, 2, 3] rfl
          refine va_calli (va_runV (As := [.int (nI ((cn + 1) - 1))]) (rest := [.int (nI mz), .ref oS]) ⟨hx, hb, hml, hown, hts⟩ (c_X1_blockEnd l dC dI cB cI cJ H.size oS aB aP aL mz (cn + 1) mz g P2_53 L2_54 ((cn + 1) - 1) (by omega)) (cwV 1 hts gX1_addBlock_X1_blockEnd rfl rfl rfl (by decide +kernel) ⟨Nat.le_of_ble_eq_true rfl, Nat.le_of_ble_eq_true rfl⟩) ⟨wBlind, va_recv hK hPc (ci := 1) (q0 := 0) rfl rfl, wGo hK hPc hDc hN⟩ rfl rfl hl.1 rfl (lv_room (Nat.le_of_ble_eq_true rfl)) dX1_addBlock_91 ⟨show 0 ≤ 0 by decide, show 0 ≤ 0 by decide⟩) hS (fun q _ h => hFc q h) hFc (fun r_56 u t H1 locs ht hvm w_57 hB hz1 hk1 hS => ?_)
          clear u
          obtain ⟨hP1, hD1⟩ := hB
          rw [ht] at hP1
          try dsimp only at w_57
          obtain ⟨hP, hD⟩ := va_join (wr := []) (w1 := [(oS, .inr (1, [.ref aB, .int (nI mz), .ref aP, .ref aL, .int (nI (cn + 1)), .int (nI mz)])), (aB, .inl (cB, 8192, .inl g)), (aP, .inl (cI, 16, .inl P2_53)), (aL, .inl (cI, 16, .inl L2_54))]) hP hD [0, 1, 2, 3] [] rfl rfl (by decide) (by decide) hk1 hFc hP1 hD1
          clear hPc hDc hFc hP1 hD1 hz1 hk1 hvm
          generalize H1 = H at hP hS ⊢
          have hP : va_P (dC, dI) vwCl [(oS, .inr (1, [.ref aB, .int (nI mz), .ref aP, .ref aL, .int (nI (cn + 1)), .int (nI mz)])), (aB, .inl (cB, 8192, .inl g)), (aP, .inl (cI, 16, .inl P2_53)), (aL, .inl (cI, 16, .inl L2_54))] H := hP
          have hD : va_D A [(oS, .inr (1, [.ref aB, .int (nI mz), .ref aP, .ref aL, .int (nI (cn + 1)), .int (nI mz)])), (aB, .inl (cB, 8192, .inl g)), (aP, .inl (cI, 16, .inl P2_53)), (aL, .inl (cI, 16, .inl L2_54))] := hD
          obtain ⟨le, hle⟩ : ∃ le, le = (if ix = cn then (pl (ix - 1) + ll (ix - 1)) + n else pl (cn - 1) + ll (cn - 1)) := ⟨_, rfl⟩
          have hle3 : le ≤ 8192 := last_le hle (by omega) (by omega) hbd
          rw [last_end (by omega) hPl hLl w_52, ← hle] at w_57
          subst w_57
          have hPc := hP.sub (ws' := []) [] rfl
          have hDc := hD.sub (ws' := []) [] (by decide) rfl
          have hFc := va_free (wc := []) hD hS hA [] rfl
          refine va_calli (va_runS (As := [.int (nI le)]) (rest := [.int (nI mz), .ref oS]) ⟨hx, hb, hml, hown, hts⟩ (c_X1_roundUp l dC dI cB cI cJ H.size le (by omega)) (va_cwS 1 hts gX1_addBlock_X1_roundUp rfl rfl rfl (by decide +kernel) ⟨Nat.le_of_ble_eq_true rfl, Nat.le_of_ble_eq_true rfl⟩) ⟨wBlind, wGo hK hPc hDc hN⟩ rfl rfl hl.1 rfl (lv_room (Nat.le_of_ble_eq_true rfl)) dX1_addBlock_94 ⟨show 0 ≤ 0 by decide, show 0 ≤ 0 by decide⟩) hS (fun q _ h => hFc q h) hFc (fun r_59 u t H1 locs ht hvm w_60 hB hz1 hk1 hS => ?_)
          clear u
          obtain ⟨hP1, hD1⟩ := hB
          rw [ht] at hP1
          try dsimp only at w_60
          obtain ⟨hP, hD⟩ := va_join (wr := [(oS, .inr (1, [.ref aB, .int (nI mz), .ref aP, .ref aL, .int (nI (cn + 1)), .int (nI mz)])), (aB, .inl (cB, 8192, .inl g)), (aP, .inl (cI, 16, .inl P2_53)), (aL, .inl (cI, 16, .inl L2_54))]) (w1 := []) hP hD [] [0, 1, 2, 3] rfl rfl (by decide) (by decide) hk1 hFc hP1 hD1
          clear hPc hDc hFc hP1 hD1 hz1 hk1 hvm
          generalize H1 = H at hP hS ⊢
          have hP : va_P (dC, dI) vwCl [(oS, .inr (1, [.ref aB, .int (nI mz), .ref aP, .ref aL, .int (nI (cn + 1)), .int (nI mz)])), (aB, .inl (cB, 8192, .inl g)), (aP, .inl (cI, 16, .inl P2_53)), (aL, .inl (cI, 16, .inl L2_54))] H := hP
          have hD : va_D A [(oS, .inr (1, [.ref aB, .int (nI mz), .ref aP, .ref aL, .int (nI (cn + 1)), .int (nI mz)])), (aB, .inl (cB, 8192, .inl g)), (aP, .inl (cI, 16, .inl P2_53)), (aL, .inl (cI, 16, .inl L2_54))] := hD
          subst w_60
          refine va_mmax hx hb (by rw [hml]; exact hl.1.symm) hown (hts (.methodLink RX1 60 Lib.Math.max.name) (by decide +kernel)) (hts (.static Lib.Math.max.name) (by decide +kernel)) (hts (.initialized "java/lang/Math") (by decide +kernel)) (hts (.code Lib.Math.max.name Lib.Math.max.code 2 (some .int)) (List.mem_of_getElem? (i := 7) rfl)) (Nat.le_of_ble_eq_true rfl) (Nat.le_of_ble_eq_true rfl) (Nat.le_of_ble_eq_true rfl) (Nat.le_of_ble_eq_true rfl) dX1_addBlock_97 ?_
          refine wx_top (wm_max (by omega) (by omega)) ?_
          have hPc := hP.sub (ws' := [(oS, .inr (1, [.ref aB, .int (nI mz), .ref aP, .ref aL, .int (nI (cn + 1)), .int (nI mz)])), (aB, .inl (cB, 8192, .inl g)), (aP, .inl (cI, 16, .inl P2_53)), (aL, .inl (cI, 16, .inl L2_54))]) [0, 1, 2, 3] rfl
          have hDc := hD.sub (ws' := [(oS, .inr (1, [.ref aB, .int (nI mz), .ref aP, .ref aL, .int (nI (cn + 1)), .int (nI mz)])), (aB, .inl (cB, 8192, .inl g)), (aP, .inl (cI, 16, .inl P2_53)), (aL, .inl (cI, 16, .inl L2_54))]) [0, 1, 2, 3] (by decide) rfl
          have hFc := va_free (wc := [(oS, .inr (1, [.ref aB, .int (nI mz), .ref aP, .ref aL, .int (nI (cn + 1)), .int (nI mz)])), (aB, .inl (cB, 8192, .inl g)), (aP, .inl (cI, 16, .inl P2_53)), (aL, .inl (cI, 16, .inl L2_54))]) hD hS hA [0, 1, 2, 3] rfl
          refine va_callv (va_runV (As := [.int (nI (max mz ((le + 256 - 1) / 256 * 256)))]) (rest := []) ⟨hx, hb, hml, hown, hts⟩ (c_X1_setSize l dC dI cB cI cJ H.size oS aB aP aL mz (cn + 1) mz g P2_53 L2_54 mem (max mz ((le + 256 - 1) / 256 * 256)) hM (by omega)) (cwV 1 hts gX1_addBlock_X1_setSize rfl rfl rfl (by decide +kernel) ⟨Nat.le_of_ble_eq_true rfl, Nat.le_of_ble_eq_true rfl⟩) ⟨wBlind, va_recv hK hPc (ci := 1) (q0 := 0) rfl rfl, wGo hK hPc hDc hN⟩ rfl rfl hl.1 rfl (lv_room (Nat.le_of_ble_eq_true rfl)) dX1_addBlock_100 ⟨show 0 ≤ 0 by decide, show 0 ≤ 0 by decide⟩) hS (fun q _ h => hFc q h) hFc (fun u t H1 locs ht hvm w_63 hB hz1 hk1 hS => ?_)
          obtain ⟨g2_64, rfl⟩ : ∃ z, z = u := ⟨_, rfl⟩
          obtain ⟨hP1, hD1⟩ := hB
          rw [ht] at hP1
          try dsimp only at w_63
          obtain ⟨hP, hD⟩ := va_join (wr := []) (w1 := [(oS, .inr (1, [.ref aB, .int (nI (max mz ((le + 256 - 1) / 256 * 256))), .ref aP, .ref aL, .int (nI (cn + 1)), .int (nI mz)])), (aB, .inl (cB, 8192, .inl g2_64)), (aP, .inl (cI, 16, .inl P2_53)), (aL, .inl (cI, 16, .inl L2_54))]) hP hD [0, 1, 2, 3] [] rfl rfl (by decide) (by decide) hk1 hFc hP1 hD1
          clear hPc hDc hFc hP1 hD1 hz1 hk1 hvm
          generalize H1 = H at hP hS ⊢
          have hP : va_P (dC, dI) vwCl [(oS, .inr (1, [.ref aB, .int (nI (max mz ((le + 256 - 1) / 256 * 256))), .ref aP, .ref aL, .int (nI (cn + 1)), .int (nI mz)])), (aB, .inl (cB, 8192, .inl g2_64)), (aP, .inl (cI, 16, .inl P2_53)), (aL, .inl (cI, 16, .inl L2_54))] H := hP
          have hD : va_D A [(oS, .inr (1, [.ref aB, .int (nI (max mz ((le + 256 - 1) / 256 * 256))), .ref aP, .ref aL, .int (nI (cn + 1)), .int (nI mz)])), (aB, .inl (cB, 8192, .inl g2_64)), (aP, .inl (cI, 16, .inl P2_53)), (aL, .inl (cI, 16, .inl L2_54))] := hD
          refine lv_iload hx hb dX1_addBlock_103 (lv_at hl 0 rfl) ?_
          have hP9 := hP.sub (ws' := [(oS, .inr (1, [.ref aB, .int (nI (max mz ((le + 256 - 1) / 256 * 256))), .ref aP, .ref aL, .int (nI (cn + 1)), .int (nI mz)])), (aB, .inl (cB, 8192, .inl g2_64)), (aP, .inl (cI, 16, .inl P2_53)), (aL, .inl (cI, 16, .inl L2_54))]) [0, 1, 2, 3] rfl
          have hD9 := hD.sub (ws' := [(oS, .inr (1, [.ref aB, .int (nI (max mz ((le + 256 - 1) / 256 * 256))), .ref aP, .ref aL, .int (nI (cn + 1)), .int (nI mz)])), (aB, .inl (cB, 8192, .inl g2_64)), (aP, .inl (cI, 16, .inl P2_53)), (aL, .inl (cI, 16, .inl L2_54))]) [0, 1, 2, 3] (by decide) rfl
          exact W.iret (v := nI (pl (ix - 1) + ll (ix - 1))) hx hb hr (fun t ht hW => ⟨⟨(nI (pl (ix - 1) + ll (ix - 1))), (g2_64, (max mz ((le + 256 - 1) / 256 * 256)), (cn + 1), mz, P2_53, L2_54), rfl, blk_ok (st := mz) (ix := ix) (by unfold blkS; split <;> omega) hix (by unfold gapP; split <;> omega) (by omega) (by omega) hPl hLl w_52 hle hbm h256 hM (by assumption), by rw [ht]; exact hP9, hD9⟩, hS.F ht⟩) hS.2.2 dX1_addBlock_105
        · skip
          refine lv_iconst (v := nI 0) hx hb dX1_addBlock_64 (by decide) ?_
          have hP9 := hP.sub (ws' := [(oS, .inr (1, [.ref aB, .int (nI mz), .ref aP, .ref aL, .int (nI cn), .int (nI hs)])), (aB, .inl (cB, 8192, .inl g)), (aP, .inl (cI, 16, .inl P)), (aL, .inl (cI, 16, .inl L))]) [0, 1, 2, 3] rfl
          have hD9 := hD.sub (ws' := [(oS, .inr (1, [.ref aB, .int (nI mz), .ref aP, .ref aL, .int (nI cn), .int (nI hs)])), (aB, .inl (cB, 8192, .inl g)), (aP, .inl (cI, 16, .inl P)), (aL, .inl (cI, 16, .inl L))]) [0, 1, 2, 3] (by decide) rfl
          exact W.iret (v := nI 0) hx hb hr (fun t ht hW => ⟨⟨(nI 0), (g, mz, cn, hs, P, L), rfl, blk_no2 (st := mz) (ix := ix) (x := pl (ix - 1) + ll (ix - 1)) (by unfold blkS; split <;> omega) hix (by unfold gapP; split <;> omega) (by omega) hM hPl hLl, by rw [ht]; exact hP9, hD9⟩, hS.F ht⟩) hS.2.2 dX1_addBlock_65
      · skip
        refine lv_iload_n hx hb dX1_addBlock_41 rfl (lv_at hl 1 rfl) ?_
        refine lv_goto (tgt := 52) hx hb dX1_addBlock_42 (by decide) ?_
        refine lv_istore (lv' := [(4, .int (nI mz)), (3, .int (nI ix)), (2, .int (nI mz)), (0, .ref oS), (1, .int (nI n))]) hx hb dX1_addBlock_52 hl (by decide) rfl (fun ls hl => ?_)
        refine lv_iload_n hx hb dX1_addBlock_54 rfl (lv_at hl 4 rfl) ?_
        refine lv_sipush (v := nI 8192) hx hb dX1_addBlock_55 (by decide) ?_
        refine lv_iload hx hb dX1_addBlock_58 (lv_at hl 0 rfl) ?_
        refine wx_isub hx hb dX1_addBlock_60 (by omega) ?_
        refine wx_icmp_le (tgt := 66) hx hb dX1_addBlock_61 (by decide) (by omega) (by omega) (fun c_65 => ?_) (fun c_65 => ?_)
        · skip
          refine lv_aload_n hx hb dX1_addBlock_66 rfl (lv_at hl 3 rfl) ?_
          refine lv_iload_n hx hb dX1_addBlock_67 rfl (lv_at hl 1 rfl) ?_
          refine lv_iload hx hb dX1_addBlock_68 (lv_at hl 0 rfl) ?_
          refine lv_iload_n hx hb dX1_addBlock_70 rfl (lv_at hl 4 rfl) ?_
          have hPc := hP.sub (ws' := [(oS, .inr (1, [.ref aB, .int (nI mz), .ref aP, .ref aL, .int (nI cn), .int (nI hs)])), (aB, .inl (cB, 8192, .inl g)), (aP, .inl (cI, 16, .inl P)), (aL, .inl (cI, 16, .inl L))]) [0, 1, 2, 3] rfl
          have hDc := hD.sub (ws' := [(oS, .inr (1, [.ref aB, .int (nI mz), .ref aP, .ref aL, .int (nI cn), .int (nI hs)])), (aB, .inl (cB, 8192, .inl g)), (aP, .inl (cI, 16, .inl P)), (aL, .inl (cI, 16, .inl L))]) [0, 1, 2, 3] (by decide) rfl
          have hFc := va_free (wc := [(oS, .inr (1, [.ref aB, .int (nI mz), .ref aP, .ref aL, .int (nI cn), .int (nI hs)])), (aB, .inl (cB, 8192, .inl g)), (aP, .inl (cI, 16, .inl P)), (aL, .inl (cI, 16, .inl L))]) hD hS hA [0, 1, 2, 3] rfl
          refine va_callv (va_runV (As := [.int (nI ix), .int (nI mz), .int (nI n)]) (rest := []) ⟨hx, hb, hml, hown, hts⟩ (c_X1_insertBlock l dC dI cB cI cJ H.size oS aB aP aL mz cn hs g P L ix mz n (by omega) (by omega)) (cwV 3 hts gX1_addBlock_X1_insertBlock rfl rfl rfl (by decide +kernel) ⟨Nat.le_of_ble_eq_true rfl, Nat.le_of_ble_eq_true rfl⟩) ⟨wBlind, va_recv hK hPc (ci := 1) (q0 := 0) rfl rfl, wGo hK hPc hDc hN⟩ rfl rfl hl.1 rfl (lv_room (Nat.le_of_ble_eq_true rfl)) dX1_addBlock_71 ⟨show 0 ≤ 0 by decide, show 0 ≤ 0 by decide⟩) hS (fun q _ h => hFc q h) hFc (fun u t H1 locs ht hvm w_68 hB hz1 hk1 hS => ?_)
          obtain ⟨P2_69, L2_70⟩ := u
          obtain ⟨hP1, hD1⟩ := hB
          rw [ht] at hP1
          try dsimp only at w_68
          obtain ⟨hP, hD⟩ := va_join (wr := []) (w1 := [(oS, .inr (1, [.ref aB, .int (nI mz), .ref aP, .ref aL, .int (nI (cn + 1)), .int (nI hs)])), (aB, .inl (cB, 8192, .inl g)), (aP, .inl (cI, 16, .inl P2_69)), (aL, .inl (cI, 16, .inl L2_70))]) hP hD [0, 1, 2, 3] [] rfl rfl (by decide) (by decide) hk1 hFc hP1 hD1
          clear hPc hDc hFc hP1 hD1 hz1 hk1 hvm
          generalize H1 = H at hP hS ⊢
          have hP : va_P (dC, dI) vwCl [(oS, .inr (1, [.ref aB, .int (nI mz), .ref aP, .ref aL, .int (nI (cn + 1)), .int (nI hs)])), (aB, .inl (cB, 8192, .inl g)), (aP, .inl (cI, 16, .inl P2_69)), (aL, .inl (cI, 16, .inl L2_70))] H := hP
          have hD : va_D A [(oS, .inr (1, [.ref aB, .int (nI mz), .ref aP, .ref aL, .int (nI (cn + 1)), .int (nI hs)])), (aB, .inl (cB, 8192, .inl g)), (aP, .inl (cI, 16, .inl P2_69)), (aL, .inl (cI, 16, .inl L2_70))] := hD
          refine lv_aload_n hx hb dX1_addBlock_74 rfl (lv_at hl 3 rfl) ?_
          refine lv_iload_n hx hb dX1_addBlock_75 rfl (lv_at hl 2 rfl) ?_
          refine va_put (D := (dC, dI)) (ci := 1) (v := .int (nI mz)) (ty := .int) (C := RX1) (T := TX1) (N := 6) hx hb hts (by decide +kernel) tyX1 tyX1_ok nmX1 hown hK hP hD hS 0 rfl rfl 5 (by decide) (hts (.fieldLink RX1 29 "GlulxHeads$State" "heapStart" "I") (by decide +kernel)) (fun _ h9 => h9) rfl (by decide +kernel) rfl rfl (Nat.le_of_ble_eq_true rfl) dX1_addBlock_76 (fun H locs hP hD hS => ?_)
          have hP : va_P (dC, dI) vwCl [(oS, .inr (1, [.ref aB, .int (nI mz), .ref aP, .ref aL, .int (nI (cn + 1)), .int (nI mz)])), (aB, .inl (cB, 8192, .inl g)), (aP, .inl (cI, 16, .inl P2_69)), (aL, .inl (cI, 16, .inl L2_70))] H := hP
          have hD : va_D A [(oS, .inr (1, [.ref aB, .int (nI mz), .ref aP, .ref aL, .int (nI (cn + 1)), .int (nI mz)])), (aB, .inl (cB, 8192, .inl g)), (aP, .inl (cI, 16, .inl P2_69)), (aL, .inl (cI, 16, .inl L2_70))] := hD
          refine lv_aload_n hx hb dX1_addBlock_79 rfl (lv_at hl 3 rfl) ?_
          refine lv_aload_n hx hb dX1_addBlock_80 rfl (lv_at hl 3 rfl) ?_
          refine va_get (D := (dC, dI)) (ci := 1) (v := .int (nI mz)) (C := RX1) (T := TX1) (N := 6) hx hb hts (by decide +kernel) hown hK hP 0 rfl rfl 1 (by decide) (hts (.fieldLink RX1 15 "GlulxHeads$State" "size" "I") (by decide +kernel)) (fun _ h9 => h9) rfl dX1_addBlock_81 ?_
          refine lv_aload_n hx hb dX1_addBlock_84 rfl (lv_at hl 3 rfl) ?_
          refine lv_aload_n hx hb dX1_addBlock_85 rfl (lv_at hl 3 rfl) ?_
          refine va_get (D := (dC, dI)) (ci := 1) (v := .int (nI (cn + 1))) (C := RX1) (T := TX1) (N := 6) hx hb hts (by decide +kernel) hown hK hP 0 rfl rfl 4 (by decide) (hts (.fieldLink RX1 26 "GlulxHeads$State" "blockCount" "I") (by decide +kernel)) (fun _ h9 => h9) rfl dX1_addBlock_86 ?_
          refine lv_iconst (v := nI 1) hx hb dX1_addBlock_89 (by decide) ?_
          refine wx_isub hx hb dX1_addBlock_90 (by omega) ?_
          have hPc := hP.sub (ws' := [(oS, .inr (1, [.ref aB, .int (nI mz), .ref aP, .ref aL, .int (nI (cn + 1)), .int (nI mz)])), (aB, .inl (cB, 8192, .inl g)), (aP, .inl (cI, 16, .inl P2_69)), (aL, .inl (cI, 16, .inl L2_70))]) [0, 1, 2, 3] rfl
          have hDc := hD.sub (ws' := [(oS, .inr (1, [.ref aB, .int (nI mz), .ref aP, .ref aL, .int (nI (cn + 1)), .int (nI mz)])), (aB, .inl (cB, 8192, .inl g)), (aP, .inl (cI, 16, .inl P2_69)), (aL, .inl (cI, 16, .inl L2_70))]) [0, 1, 2, 3] (by decide) rfl
          have hFc := va_free (wc := [(oS, .inr (1, [.ref aB, .int (nI mz), .ref aP, .ref aL, .int (nI (cn + 1)), .int (nI mz)])), (aB, .inl (cB, 8192, .inl g)), (aP, .inl (cI, 16, .inl P2_69)), (aL, .inl (cI, 16, .inl L2_70))]) hD hS hA [0, 1, 2, 3] rfl
          refine va_calli (va_runV (As := [.int (nI ((cn + 1) - 1))]) (rest := [.int (nI mz), .ref oS]) ⟨hx, hb, hml, hown, hts⟩ (c_X1_blockEnd l dC dI cB cI cJ H.size oS aB aP aL mz (cn + 1) mz g P2_69 L2_70 ((cn + 1) - 1) (by omega)) (cwV 1 hts gX1_addBlock_X1_blockEnd rfl rfl rfl (by decide +kernel) ⟨Nat.le_of_ble_eq_true rfl, Nat.le_of_ble_eq_true rfl⟩) ⟨wBlind, va_recv hK hPc (ci := 1) (q0 := 0) rfl rfl, wGo hK hPc hDc hN⟩ rfl rfl hl.1 rfl (lv_room (Nat.le_of_ble_eq_true rfl)) dX1_addBlock_91 ⟨show 0 ≤ 0 by decide, show 0 ≤ 0 by decide⟩) hS (fun q _ h => hFc q h) hFc (fun r_72 u t H1 locs ht hvm w_73 hB hz1 hk1 hS => ?_)
          clear u
          obtain ⟨hP1, hD1⟩ := hB
          rw [ht] at hP1
          try dsimp only at w_73
          obtain ⟨hP, hD⟩ := va_join (wr := []) (w1 := [(oS, .inr (1, [.ref aB, .int (nI mz), .ref aP, .ref aL, .int (nI (cn + 1)), .int (nI mz)])), (aB, .inl (cB, 8192, .inl g)), (aP, .inl (cI, 16, .inl P2_69)), (aL, .inl (cI, 16, .inl L2_70))]) hP hD [0, 1, 2, 3] [] rfl rfl (by decide) (by decide) hk1 hFc hP1 hD1
          clear hPc hDc hFc hP1 hD1 hz1 hk1 hvm
          generalize H1 = H at hP hS ⊢
          have hP : va_P (dC, dI) vwCl [(oS, .inr (1, [.ref aB, .int (nI mz), .ref aP, .ref aL, .int (nI (cn + 1)), .int (nI mz)])), (aB, .inl (cB, 8192, .inl g)), (aP, .inl (cI, 16, .inl P2_69)), (aL, .inl (cI, 16, .inl L2_70))] H := hP
          have hD : va_D A [(oS, .inr (1, [.ref aB, .int (nI mz), .ref aP, .ref aL, .int (nI (cn + 1)), .int (nI mz)])), (aB, .inl (cB, 8192, .inl g)), (aP, .inl (cI, 16, .inl P2_69)), (aL, .inl (cI, 16, .inl L2_70))] := hD
          obtain ⟨le, hle⟩ : ∃ le, le = (if ix = cn then (mz) + n else pl (cn - 1) + ll (cn - 1)) := ⟨_, rfl⟩
          have hle3 : le ≤ 8192 := last_le hle (by omega) (by omega) hbd
          rw [last_end (by omega) hPl hLl w_68, ← hle] at w_73
          subst w_73
          have hPc := hP.sub (ws' := []) [] rfl
          have hDc := hD.sub (ws' := []) [] (by decide) rfl
          have hFc := va_free (wc := []) hD hS hA [] rfl
          refine va_calli (va_runS (As := [.int (nI le)]) (rest := [.int (nI mz), .ref oS]) ⟨hx, hb, hml, hown, hts⟩ (c_X1_roundUp l dC dI cB cI cJ H.size le (by omega)) (va_cwS 1 hts gX1_addBlock_X1_roundUp rfl rfl rfl (by decide +kernel) ⟨Nat.le_of_ble_eq_true rfl, Nat.le_of_ble_eq_true rfl⟩) ⟨wBlind, wGo hK hPc hDc hN⟩ rfl rfl hl.1 rfl (lv_room (Nat.le_of_ble_eq_true rfl)) dX1_addBlock_94 ⟨show 0 ≤ 0 by decide, show 0 ≤ 0 by decide⟩) hS (fun q _ h => hFc q h) hFc (fun r_75 u t H1 locs ht hvm w_76 hB hz1 hk1 hS => ?_)
          clear u
          obtain ⟨hP1, hD1⟩ := hB
          rw [ht] at hP1
          try dsimp only at w_76
          obtain ⟨hP, hD⟩ := va_join (wr := [(oS, .inr (1, [.ref aB, .int (nI mz), .ref aP, .ref aL, .int (nI (cn + 1)), .int (nI mz)])), (aB, .inl (cB, 8192, .inl g)), (aP, .inl (cI, 16, .inl P2_69)), (aL, .inl (cI, 16, .inl L2_70))]) (w1 := []) hP hD [] [0, 1, 2, 3] rfl rfl (by decide) (by decide) hk1 hFc hP1 hD1
          clear hPc hDc hFc hP1 hD1 hz1 hk1 hvm
          generalize H1 = H at hP hS ⊢
          have hP : va_P (dC, dI) vwCl [(oS, .inr (1, [.ref aB, .int (nI mz), .ref aP, .ref aL, .int (nI (cn + 1)), .int (nI mz)])), (aB, .inl (cB, 8192, .inl g)), (aP, .inl (cI, 16, .inl P2_69)), (aL, .inl (cI, 16, .inl L2_70))] H := hP
          have hD : va_D A [(oS, .inr (1, [.ref aB, .int (nI mz), .ref aP, .ref aL, .int (nI (cn + 1)), .int (nI mz)])), (aB, .inl (cB, 8192, .inl g)), (aP, .inl (cI, 16, .inl P2_69)), (aL, .inl (cI, 16, .inl L2_70))] := hD
          subst w_76
          refine va_mmax hx hb (by rw [hml]; exact hl.1.symm) hown (hts (.methodLink RX1 60 Lib.Math.max.name) (by decide +kernel)) (hts (.static Lib.Math.max.name) (by decide +kernel)) (hts (.initialized "java/lang/Math") (by decide +kernel)) (hts (.code Lib.Math.max.name Lib.Math.max.code 2 (some .int)) (List.mem_of_getElem? (i := 7) rfl)) (Nat.le_of_ble_eq_true rfl) (Nat.le_of_ble_eq_true rfl) (Nat.le_of_ble_eq_true rfl) (Nat.le_of_ble_eq_true rfl) dX1_addBlock_97 ?_
          refine wx_top (wm_max (by omega) (by omega)) ?_
          have hPc := hP.sub (ws' := [(oS, .inr (1, [.ref aB, .int (nI mz), .ref aP, .ref aL, .int (nI (cn + 1)), .int (nI mz)])), (aB, .inl (cB, 8192, .inl g)), (aP, .inl (cI, 16, .inl P2_69)), (aL, .inl (cI, 16, .inl L2_70))]) [0, 1, 2, 3] rfl
          have hDc := hD.sub (ws' := [(oS, .inr (1, [.ref aB, .int (nI mz), .ref aP, .ref aL, .int (nI (cn + 1)), .int (nI mz)])), (aB, .inl (cB, 8192, .inl g)), (aP, .inl (cI, 16, .inl P2_69)), (aL, .inl (cI, 16, .inl L2_70))]) [0, 1, 2, 3] (by decide) rfl
          have hFc := va_free (wc := [(oS, .inr (1, [.ref aB, .int (nI mz), .ref aP, .ref aL, .int (nI (cn + 1)), .int (nI mz)])), (aB, .inl (cB, 8192, .inl g)), (aP, .inl (cI, 16, .inl P2_69)), (aL, .inl (cI, 16, .inl L2_70))]) hD hS hA [0, 1, 2, 3] rfl
          refine va_callv (va_runV (As := [.int (nI (max mz ((le + 256 - 1) / 256 * 256)))]) (rest := []) ⟨hx, hb, hml, hown, hts⟩ (c_X1_setSize l dC dI cB cI cJ H.size oS aB aP aL mz (cn + 1) mz g P2_69 L2_70 mem (max mz ((le + 256 - 1) / 256 * 256)) hM (by omega)) (cwV 1 hts gX1_addBlock_X1_setSize rfl rfl rfl (by decide +kernel) ⟨Nat.le_of_ble_eq_true rfl, Nat.le_of_ble_eq_true rfl⟩) ⟨wBlind, va_recv hK hPc (ci := 1) (q0 := 0) rfl rfl, wGo hK hPc hDc hN⟩ rfl rfl hl.1 rfl (lv_room (Nat.le_of_ble_eq_true rfl)) dX1_addBlock_100 ⟨show 0 ≤ 0 by decide, show 0 ≤ 0 by decide⟩) hS (fun q _ h => hFc q h) hFc (fun u t H1 locs ht hvm w_79 hB hz1 hk1 hS => ?_)
          obtain ⟨g2_80, rfl⟩ : ∃ z, z = u := ⟨_, rfl⟩
          obtain ⟨hP1, hD1⟩ := hB
          rw [ht] at hP1
          try dsimp only at w_79
          obtain ⟨hP, hD⟩ := va_join (wr := []) (w1 := [(oS, .inr (1, [.ref aB, .int (nI (max mz ((le + 256 - 1) / 256 * 256))), .ref aP, .ref aL, .int (nI (cn + 1)), .int (nI mz)])), (aB, .inl (cB, 8192, .inl g2_80)), (aP, .inl (cI, 16, .inl P2_69)), (aL, .inl (cI, 16, .inl L2_70))]) hP hD [0, 1, 2, 3] [] rfl rfl (by decide) (by decide) hk1 hFc hP1 hD1
          clear hPc hDc hFc hP1 hD1 hz1 hk1 hvm
          generalize H1 = H at hP hS ⊢
          have hP : va_P (dC, dI) vwCl [(oS, .inr (1, [.ref aB, .int (nI (max mz ((le + 256 - 1) / 256 * 256))), .ref aP, .ref aL, .int (nI (cn + 1)), .int (nI mz)])), (aB, .inl (cB, 8192, .inl g2_80)), (aP, .inl (cI, 16, .inl P2_69)), (aL, .inl (cI, 16, .inl L2_70))] H := hP
          have hD : va_D A [(oS, .inr (1, [.ref aB, .int (nI (max mz ((le + 256 - 1) / 256 * 256))), .ref aP, .ref aL, .int (nI (cn + 1)), .int (nI mz)])), (aB, .inl (cB, 8192, .inl g2_80)), (aP, .inl (cI, 16, .inl P2_69)), (aL, .inl (cI, 16, .inl L2_70))] := hD
          refine lv_iload hx hb dX1_addBlock_103 (lv_at hl 0 rfl) ?_
          have hP9 := hP.sub (ws' := [(oS, .inr (1, [.ref aB, .int (nI (max mz ((le + 256 - 1) / 256 * 256))), .ref aP, .ref aL, .int (nI (cn + 1)), .int (nI mz)])), (aB, .inl (cB, 8192, .inl g2_80)), (aP, .inl (cI, 16, .inl P2_69)), (aL, .inl (cI, 16, .inl L2_70))]) [0, 1, 2, 3] rfl
          have hD9 := hD.sub (ws' := [(oS, .inr (1, [.ref aB, .int (nI (max mz ((le + 256 - 1) / 256 * 256))), .ref aP, .ref aL, .int (nI (cn + 1)), .int (nI mz)])), (aB, .inl (cB, 8192, .inl g2_80)), (aP, .inl (cI, 16, .inl P2_69)), (aL, .inl (cI, 16, .inl L2_70))]) [0, 1, 2, 3] (by decide) rfl
          exact W.iret (v := nI mz) hx hb hr (fun t ht hW => ⟨⟨(nI mz), (g2_80, (max mz ((le + 256 - 1) / 256 * 256)), (cn + 1), mz, P2_69, L2_70), rfl, blk_ok (st := mz) (ix := ix) (by unfold blkS; split <;> omega) hix (by unfold gapP; split <;> omega) (by omega) (by omega) hPl hLl w_68 hle hbm h256 hM (by assumption), by rw [ht]; exact hP9, hD9⟩, hS.F ht⟩) hS.2.2 dX1_addBlock_105
        · skip
          refine lv_iconst (v := nI 0) hx hb dX1_addBlock_64 (by decide) ?_
          have hP9 := hP.sub (ws' := [(oS, .inr (1, [.ref aB, .int (nI mz), .ref aP, .ref aL, .int (nI cn), .int (nI hs)])), (aB, .inl (cB, 8192, .inl g)), (aP, .inl (cI, 16, .inl P)), (aL, .inl (cI, 16, .inl L))]) [0, 1, 2, 3] rfl
          have hD9 := hD.sub (ws' := [(oS, .inr (1, [.ref aB, .int (nI mz), .ref aP, .ref aL, .int (nI cn), .int (nI hs)])), (aB, .inl (cB, 8192, .inl g)), (aP, .inl (cI, 16, .inl P)), (aL, .inl (cI, 16, .inl L))]) [0, 1, 2, 3] (by decide) rfl
          exact W.iret (v := nI 0) hx hb hr (fun t ht hW => ⟨⟨(nI 0), (g, mz, cn, hs, P, L), rfl, blk_no2 (st := mz) (ix := ix) (x := mz) (by unfold blkS; split <;> omega) hix (by unfold gapP; split <;> omega) (by omega) hM hPl hLl, by rw [ht]; exact hP9, hD9⟩, hS.F ht⟩) hS.2.2 dX1_addBlock_65
  · skip
    refine lv_iconst (v := nI 0) hx hb dX1_addBlock_9 (by decide) ?_
    have hP9 := hP.sub (ws' := [(oS, .inr (1, [.ref aB, .int (nI mz), .ref aP, .ref aL, .int (nI cn), .int (nI hs)])), (aB, .inl (cB, 8192, .inl g)), (aP, .inl (cI, 16, .inl P)), (aL, .inl (cI, 16, .inl L))]) [0, 1, 2, 3] rfl
    have hD9 := hD.sub (ws' := [(oS, .inr (1, [.ref aB, .int (nI mz), .ref aP, .ref aL, .int (nI cn), .int (nI hs)])), (aB, .inl (cB, 8192, .inl g)), (aP, .inl (cI, 16, .inl P)), (aL, .inl (cI, 16, .inl L))]) [0, 1, 2, 3] (by decide) rfl
    exact W.iret (v := nI 0) hx hb hr (fun t ht hW => ⟨⟨(nI 0), (g, mz, cn, hs, P, L), rfl, blk_no (by omega) hM hPl hLl, by rw [ht]; exact hP9, hD9⟩, hS.F ht⟩) hS.2.2 dX1_addBlock_10
