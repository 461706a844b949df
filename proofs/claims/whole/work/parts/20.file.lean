def fOk (f : Nat → Int32) (len : Nat) (fb : Nat → Nat) : Prop := len ≤ 3000 ∧ (∀ j, fb j < 256) ∧ (∀ j, len ≤ j → fb j = 0) ∧ ∀ j, j < len → f j = sb_b (fb j)
theorem sb_cutB (v : Int32) : v.toInt8.toInt32 = sb_b (uB v % 256) := by rw [← sb_cut (uB v), uB_nI]
theorem fOk_app {f : Nat → Int32} {len : Nat} {fb : Nat → Nat} {v : Int32} (h : fOk f len fb) (h3 : len < 3000) : fOk (upd f len v.toInt8.toInt32) (len + 1) (va_up fb len (uB v % 256)) := by
  obtain ⟨h1, h2, h4, h5⟩ := h
  refine ⟨h3, fun j => ?_, fun j hj => ?_, fun j hj => ?_⟩
  · unfold va_up; split
    · omega
    · exact h2 j
  · unfold va_up; rw [if_neg (by omega)]; exact h4 j (by omega)
  · by_cases z : j = len
    · subst z; rw [pk_us, va_up_self]; exact sb_cutB v
    · rw [pk_un z, va_up_ne _ _ z]; exact h5 j (by omega)
theorem fOk_put {f : Nat → Int32} {len : Nat} {fb : Nat → Nat} {v : Int32} {k : Nat} (h : fOk f len fb) (h3 : k < len) : fOk (upd f k v.toInt8.toInt32) len (va_up fb k (uB v % 256)) := by
  obtain ⟨h1, h2, h4, h5⟩ := h
  refine ⟨h1, fun j => ?_, fun j hj => ?_, fun j hj => ?_⟩
  · unfold va_up; split
    · omega
    · exact h2 j
  · unfold va_up; rw [if_neg (by omega)]; exact h4 j (by omega)
  · by_cases z : j = k
    · subst z; rw [pk_us, va_up_self]; exact sb_cutB v
    · rw [pk_un z, va_up_ne _ _ z]; exact h5 j (by omega)
/-- the four bytes of v from k on, the highest first -/
def up4 (fb : Nat → Nat) (k : Nat) (v : Int32) : Nat → Nat := va_up (va_up (va_up (va_up fb k (uB v / 16777216 % 256)) (k + 1) (uB v / 65536 % 256)) (k + 2) (uB v / 256 % 256)) (k + 3) (uB v % 256)
theorem uB_of {n : Nat} (h : n < 4294967296) : uB (nI n) = n := pk_tn h
theorem uB_u (v s : Int32) (k : Nat) (hs : ((s.toUInt32 &&& Int32.toUInt32 31).toBitVec % 32).toNat = k) : uB (v.toUInt32 >>> (s.toUInt32 &&& Int32.toUInt32 31)).toInt32 = uB v / 2 ^ k := by
  rw [uB_ushr v s k hs, uB_of]
  exact Nat.lt_of_le_of_lt (Nat.div_le_self _ _) (uB_lt v)
theorem up4_eq (fb : Nat → Nat) (k : Nat) (v : Int32) : va_up (va_up (va_up (va_up fb k (uB ((v.toUInt32 >>> ((nI 24).toUInt32 &&& Int32.toUInt32 31)).toInt32) % 256)) (k + 1) (uB ((v.toUInt32 >>> ((nI 16).toUInt32 &&& Int32.toUInt32 31)).toInt32) % 256)) (k + 2) (uB ((v.toUInt32 >>> ((nI 8).toUInt32 &&& Int32.toUInt32 31)).toInt32) % 256)) (k + 3) (uB v % 256) = up4 fb k v := by
  rw [uB_u v (nI 24) 24 (by decide), uB_u v (nI 16) 16 (by decide), uB_u v (nI 8) 8 (by decide)]
  rfl
set_option maxHeartbeats 4000000 in
set_option maxRecDepth 100000 in
theorem c_X2_init (l : Launch) (dC : Nat → ClassId) (dI : Nat → Nat → Nat) (cB cI cJ : ClassId) (sz : Nat) (h0 : Nat)  : Met l yX2_init wsX2_init ({ frames := 1, cells := 1, slots := 3000, locals := 20 }) (va_Pc [.ref h0] (wPre dC dI cB cI cJ sz [(h0, .inr (2, [.null, .int (nI 0)]))])) (va_Qv (fun (u : Nat) => True) (fun (u : Nat) => wPost dC dI (va_A [(h0, .inr (2, [.null, .int (nI 0)]))] sz) [(h0, .inr (2, [.ref u, .int (nI 0)])), (u, .inl (cB, 3000, .inl (fun _ => 0)))]) (va_A [(h0, .inr (2, [.null, .int (nI 0)]))] sz)) 1 3000 (va_A [(h0, .inr (2, [.null, .int (nI 0)]))] sz) := by
  refine Met.ofW (cc := cX2_init) (maxL := 1) (ret := none) (by decide) rfl ?_
  intro p e s m args below meth c s₁ B hml hv
  obtain ⟨rfl, hsz, hP, hK, hD0, hN⟩ := hv
  have hx := B.exec
  have hb := B.bytes
  have hr := B.returns
  have hts := atoms_spec (ws := wsX2_init) B.pre
  have hown : s.vm.findClass RX2 = some m.cls := findClass_of_methodNamed B.named
  have hlocks := B.notSynchronized
  have hin : meth.name = "<init>" := (name_of_methodNamed B.named B.method).1
  subst hsz
  have hD := hD0.self (sz := s.heap.size)
  generalize hAe : va_A [(h0, .inr (2, [.null, .int (nI 0)]))] s.heap.size = A at hD ⊢
  have hA : ∀ q : Nat, s.heap.size ≤ q → A q := fun q h => by rw [← hAe]; exact Or.inr h
  have hS : va_S A s.heap s.heap [] := va_S.rf
  have hP : va_P (dC, dI) vwCl [(h0, .inr (2, [.null, .int (nI 0)]))] s.heap := hP
  have hl := lv_entry ([.ref h0]) (n := 1) (Nat.le_of_ble_eq_true rfl)
  rw [lg_entry_eq]
  generalize (lg_sl ([.ref h0]) ++ List.replicate (1 - (lg_sl ([.ref h0])).length) Slot.unset).toArray = ls at hl ⊢
  have hl : lv_has ls 1 [(0, .ref h0)] := hl
  refine lv_aload_n hx hb dX2_init_0 rfl (lv_at hl 0 rfl) ?_
  refine W.objInit hx hb hown (hts (.methodLink RX2 3 objectInit) (by decide +kernel)) (hts (.instanceMethod objectInit) (by decide +kernel)) (hts (.code objectInit ⟨#[0xb1]⟩ 1 none) (List.mem_of_getElem? (i := 3) rfl)) rfl (by rw [hml]; exact hl.1) rfl dX2_init_1 (Nat.le_of_ble_eq_true rfl) (Nat.le_of_ble_eq_true rfl) ?_
  refine W.eq (g2 := F0 m 4 ls []) rfl ?_
  refine lv_aload_n hx hb dX2_init_4 rfl (lv_at hl 0 rfl) ?_
  refine lv_sipush (v := nI 3000) hx hb dX2_init_5 (by decide) ?_
  refine va_newa (a0 := (3000, .inl (fun _ => 0))) (ty := .byte) (atype := .byte) (n := nI 3000) (N' := 3000) hx hb (hts (.arrayClass .byte) (by decide +kernel)) rfl hK hP hD hS hA (wx_a0b 3000) (nI_pos (by decide)) (nI_clamp (by decide)) (by decide) (show 1 ≤ 1 by decide) (show 3000 ≤ 3000 by decide) dX2_init_8 (fun q_1 cA H hK hP hD hS => ?_)
  obtain rfl := wx_uni hK (i := 0) (j := 3) rfl rfl rfl
  have hK := hK.sub (tys' := tyL cB cI cJ) [0, 1, 2] rfl
  have hP : va_P (dC, dI) vwCl [(h0, .inr (2, [.null, .int (nI 0)])), (q_1, .inl (cB, 3000, .inl (fun _ => 0)))] H := hP
  have hD : va_D A [(h0, .inr (2, [.null, .int (nI 0)])), (q_1, .inl (cB, 3000, .inl (fun _ => 0)))] := hD
  refine va_putF (D := (dC, dI)) (ci := 2) (v := .ref q_1) (ty := (tyX2 0)) (C := RX2) (T := TX2) (N := 2) hx hb hts (by decide +kernel) tyX2 tyX2_ok nmX2 hown hK hP hD hS 0 rfl rfl 0 (by decide) (hts (.fieldLink RX2 9 "GlulxHeads$StoryFile" "bytes" "[B") (by decide +kernel)) (fun _ h9 => h9) rfl hin rfl (by decide +kernel) rfl rfl (Nat.le_of_ble_eq_true rfl) dX2_init_10 (fun H locs hP hD hS => ?_)
  have hP : va_P (dC, dI) vwCl [(h0, .inr (2, [.ref q_1, .int (nI 0)])), (q_1, .inl (cB, 3000, .inl (fun _ => 0)))] H := hP
  have hD : va_D A [(h0, .inr (2, [.ref q_1, .int (nI 0)])), (q_1, .inl (cB, 3000, .inl (fun _ => 0)))] := hD
  refine lv_aload_n hx hb dX2_init_13 rfl (lv_at hl 0 rfl) ?_
  refine lv_iconst (v := nI 0) hx hb dX2_init_14 (by decide) ?_
  refine va_put (D := (dC, dI)) (ci := 2) (v := .int (nI 0)) (ty := .int) (C := RX2) (T := TX2) (N := 2) hx hb hts (by decide +kernel) tyX2 tyX2_ok nmX2 hown hK hP hD hS 0 rfl rfl 1 (by decide) (hts (.fieldLink RX2 15 "GlulxHeads$StoryFile" "length" "I") (by decide +kernel)) (fun _ h9 => h9) rfl (by decide +kernel) rfl rfl (Nat.le_of_ble_eq_true rfl) dX2_init_15 (fun H locs hP hD hS => ?_)
  have hP : va_P (dC, dI) vwCl [(h0, .inr (2, [.ref q_1, .int (nI 0)])), (q_1, .inl (cB, 3000, .inl (fun _ => 0)))] H := hP
  have hD : va_D A [(h0, .inr (2, [.ref q_1, .int (nI 0)])), (q_1, .inl (cB, 3000, .inl (fun _ => 0)))] := hD
  refine W.widen (k := 1) (n := 3000) (show 1 ≤ 1 by decide) (show 3000 ≤ 3000 by decide) ?_
  have hP9 := hP.sub (ws' := [(h0, .inr (2, [.ref q_1, .int (nI 0)])), (q_1, .inl (cB, 3000, .inl (fun _ => 0)))]) [0, 1] rfl
  have hD9 := hD.sub (ws' := [(h0, .inr (2, [.ref q_1, .int (nI 0)])), (q_1, .inl (cB, 3000, .inl (fun _ => 0)))]) [0, 1] (by decide) rfl
  exact W.vret hx hb hr (fun t ht hW => ⟨⟨(q_1), rfl, trivial, by rw [ht]; exact hP9, hD9⟩, hS.F ht⟩) hS.2.2 dX2_init_18
set_option maxHeartbeats 4000000 in
set_option maxRecDepth 100000 in
theorem c_X2_hasRoomFor (l : Launch) (dC : Nat → ClassId) (dI : Nat → Nat → Nat) (cB cI cJ : ClassId) (sz : Nat) (h0 : Nat) (b0 : Nat) (f : Nat → Int32) (len : Nat) (fb : Nat → Nat) (k : Nat) (hF : fOk f len fb) (hk : k < 1000000) : Met l yX2_hasRoomFor wsX2_hasRoomFor ({ frames := 0, cells := 0, slots := 0, locals := 0 }) (va_Pc [.ref h0, .int (nI k)] (wPre dC dI cB cI cJ sz [(h0, .inr (2, [.ref b0, .int (nI len)])), (b0, .inl (cB, 3000, .inl f))])) (va_Qi (fun (r : Int32) (u : Unit) => r = nI (if len + k ≤ 3000 then 1 else 0)) (fun (u : Unit) => wPost dC dI (va_A [(h0, .inr (2, [.ref b0, .int (nI len)])), (b0, .inl (cB, 3000, .inl f))] sz) [(h0, .inr (2, [.ref b0, .int (nI len)])), (b0, .inl (cB, 3000, .inl f))]) (va_A [(h0, .inr (2, [.ref b0, .int (nI len)])), (b0, .inl (cB, 3000, .inl f))] sz)) 0 0 (va_A [(h0, .inr (2, [.ref b0, .int (nI len)])), (b0, .inl (cB, 3000, .inl f))] sz) := by
  refine Met.ofW (cc := cX2_hasRoomFor) (maxL := 2) (ret := (some .boolean)) (by decide) rfl ?_
  intro p e s m args below meth c s₁ B hml hv
  obtain ⟨rfl, hsz, hP, hK, hD0, hN⟩ := hv
  have hx := B.exec
  have hb := B.bytes
  have hr := B.returns
  have hts := atoms_spec (ws := wsX2_hasRoomFor) B.pre
  have hown : s.vm.findClass RX2 = some m.cls := findClass_of_methodNamed B.named
  have hlocks := B.notSynchronized
  subst hsz
  have hD := hD0.self (sz := s.heap.size)
  generalize hAe : va_A [(h0, .inr (2, [.ref b0, .int (nI len)])), (b0, .inl (cB, 3000, .inl f))] s.heap.size = A at hD ⊢
  have hA : ∀ q : Nat, s.heap.size ≤ q → A q := fun q h => by rw [← hAe]; exact Or.inr h
  have hS : va_S A s.heap s.heap [] := va_S.rf
  have hP : va_P (dC, dI) vwCl [(h0, .inr (2, [.ref b0, .int (nI len)])), (b0, .inl (cB, 3000, .inl f))] s.heap := hP
  have hl := lv_entry ([.ref h0, .int (nI k)]) (n := 2) (Nat.le_of_ble_eq_true rfl)
  rw [lg_entry_eq]
  generalize (lg_sl ([.ref h0, .int (nI k)]) ++ List.replicate (2 - (lg_sl ([.ref h0, .int (nI k)])).length) Slot.unset).toArray = ls at hl ⊢
  have hl : lv_has ls 2 [(0, .ref h0), (1, .int (nI k))] := hl
  have hF1 := hF.1
  have hF2 := hF.2.1
  refine lv_iload_n hx hb dX2_hasRoomFor_0 rfl (lv_at hl 1 rfl) ?_
  refine lv_sipush (v := nI 3000) hx hb dX2_hasRoomFor_1 (by decide) ?_
  refine lv_aload_n hx hb dX2_hasRoomFor_4 rfl (lv_at hl 0 rfl) ?_
  refine va_get (D := (dC, dI)) (ci := 2) (v := .int (nI len)) (C := RX2) (T := TX2) (N := 2) hx hb hts (by decide +kernel) hown hK hP 0 rfl rfl 1 (by decide) (hts (.fieldLink RX2 15 "GlulxHeads$StoryFile" "length" "I") (by decide +kernel)) (fun _ h9 => h9) rfl dX2_hasRoomFor_5 ?_
  refine wx_isub hx hb dX2_hasRoomFor_8 (by omega) ?_
  refine wx_icmp_gt (tgt := 16) hx hb dX2_hasRoomFor_9 (by decide) (by omega) (by omega) (fun c_1 => ?_) (fun c_1 => ?_)
  · skip
    refine lv_iconst (v := nI 0) hx hb dX2_hasRoomFor_16 (by decide) ?_
    have hP9 := hP.sub (ws' := [(h0, .inr (2, [.ref b0, .int (nI len)])), (b0, .inl (cB, 3000, .inl f))]) [0, 1] rfl
    have hD9 := hD.sub (ws' := [(h0, .inr (2, [.ref b0, .int (nI len)])), (b0, .inl (cB, 3000, .inl f))]) [0, 1] (by decide) rfl
    exact W.zret (v := nI 0) hx hb hr (by first | rfl | decide) (fun t ht hW => ⟨⟨(nI 0), (), rfl, by rw [if_neg (by omega)], by rw [ht]; exact hP9, hD9⟩, hS.F ht⟩) hS.2.2 dX2_hasRoomFor_17
  · skip
    refine lv_iconst (v := nI 1) hx hb dX2_hasRoomFor_12 (by decide) ?_
    refine lv_goto (tgt := 17) hx hb dX2_hasRoomFor_13 (by decide) ?_
    have hP9 := hP.sub (ws' := [(h0, .inr (2, [.ref b0, .int (nI len)])), (b0, .inl (cB, 3000, .inl f))]) [0, 1] rfl
    have hD9 := hD.sub (ws' := [(h0, .inr (2, [.ref b0, .int (nI len)])), (b0, .inl (cB, 3000, .inl f))]) [0, 1] (by decide) rfl
    exact W.zret (v := nI 1) hx hb hr (by first | rfl | decide) (fun t ht hW => ⟨⟨(nI 1), (), rfl, by rw [if_pos (by omega)], by rw [ht]; exact hP9, hD9⟩, hS.F ht⟩) hS.2.2 dX2_hasRoomFor_17
set_option maxHeartbeats 4000000 in
set_option maxRecDepth 100000 in
theorem c_X2_hasWholeWord (l : Launch) (dC : Nat → ClassId) (dI : Nat → Nat → Nat) (cB cI cJ : ClassId) (sz : Nat) (h0 : Nat) (b0 : Nat) (f : Nat → Int32) (len : Nat) (fb : Nat → Nat) (a : Int32) (hF : fOk f len fb) : Met l yX2_hasWholeWord wsX2_hasWholeWord ({ frames := 0, cells := 0, slots := 0, locals := 0 }) (va_Pc [.ref h0, .int a] (wPre dC dI cB cI cJ sz [(h0, .inr (2, [.ref b0, .int (nI len)])), (b0, .inl (cB, 3000, .inl f))])) (va_Qi (fun (r : Int32) (u : Unit) => r = nI (if 0 ≤ a.toInt ∧ a.toInt % 4 = 0 ∧ a.toInt + 4 ≤ (len : Int) then 1 else 0)) (fun (u : Unit) => wPost dC dI (va_A [(h0, .inr (2, [.ref b0, .int (nI len)])), (b0, .inl (cB, 3000, .inl f))] sz) [(h0, .inr (2, [.ref b0, .int (nI len)])), (b0, .inl (cB, 3000, .inl f))]) (va_A [(h0, .inr (2, [.ref b0, .int (nI len)])), (b0, .inl (cB, 3000, .inl f))] sz)) 0 0 (va_A [(h0, .inr (2, [.ref b0, .int (nI len)])), (b0, .inl (cB, 3000, .inl f))] sz) := by
  refine Met.ofW (cc := cX2_hasWholeWord) (maxL := 2) (ret := (some .boolean)) (by decide) rfl ?_
  intro p e s m args below meth c s₁ B hml hv
  obtain ⟨rfl, hsz, hP, hK, hD0, hN⟩ := hv
  have hx := B.exec
  have hb := B.bytes
  have hr := B.returns
  have hts := atoms_spec (ws := wsX2_hasWholeWord) B.pre
  have hown : s.vm.findClass RX2 = some m.cls := findClass_of_methodNamed B.named
  have hlocks := B.notSynchronized
  subst hsz
  have hD := hD0.self (sz := s.heap.size)
  generalize hAe : va_A [(h0, .inr (2, [.ref b0, .int (nI len)])), (b0, .inl (cB, 3000, .inl f))] s.heap.size = A at hD ⊢
  have hA : ∀ q : Nat, s.heap.size ≤ q → A q := fun q h => by rw [← hAe]; exact Or.inr h
  have hS : va_S A s.heap s.heap [] := va_S.rf
  have hP : va_P (dC, dI) vwCl [(h0, .inr (2, [.ref b0, .int (nI len)])), (b0, .inl (cB, 3000, .inl f))] s.heap := hP
  have hl := lv_entry ([.ref h0, .int a]) (n := 2) (Nat.le_of_ble_eq_true rfl)
  rw [lg_entry_eq]
  generalize (lg_sl ([.ref h0, .int a]) ++ List.replicate (2 - (lg_sl ([.ref h0, .int a])).length) Slot.unset).toArray = ls at hl ⊢
  have hl : lv_has ls 2 [(0, .ref h0), (1, .int a)] := hl
  have hF1 := hF.1
  have hF2 := hF.2.1
  refine lv_iload_n hx hb dX2_hasWholeWord_0 rfl (lv_at hl 1 rfl) ?_
  refine lv_if_lt (tgt := 24) hx hb dX2_hasWholeWord_1 (by decide) (fun c_1 => ?_) (fun c_1 => ?_)
  · skip
    rw [Int32.lt_iff_toInt_lt, show (0 : Int32).toInt = 0 by decide] at c_1
    refine lv_iconst (v := nI 0) hx hb dX2_hasWholeWord_24 (by decide) ?_
    have hP9 := hP.sub (ws' := [(h0, .inr (2, [.ref b0, .int (nI len)])), (b0, .inl (cB, 3000, .inl f))]) [0, 1] rfl
    have hD9 := hD.sub (ws' := [(h0, .inr (2, [.ref b0, .int (nI len)])), (b0, .inl (cB, 3000, .inl f))]) [0, 1] (by decide) rfl
    exact W.zret (v := nI 0) hx hb hr (by first | rfl | decide) (fun t ht hW => ⟨⟨(nI 0), (), rfl, by rw [if_neg (by omega)], by rw [ht]; exact hP9, hD9⟩, hS.F ht⟩) hS.2.2 dX2_hasWholeWord_25
  · skip
    rw [Int32.lt_iff_toInt_lt, show (0 : Int32).toInt = 0 by decide] at c_1
    obtain ⟨j, hj, rfl⟩ : ∃ j : Nat, j < 2147483648 ∧ a = nI j := nI_of (by intro z; rw [Int32.lt_iff_toInt_lt, show (0 : Int32).toInt = 0 by decide] at z; omega)
    have hjE : (nI j).toInt = (j : Int) := nI_toInt hj
    refine lv_iload_n hx hb dX2_hasWholeWord_4 rfl (lv_at hl 1 rfl) ?_
    refine lv_iconst (v := nI 4) hx hb dX2_hasWholeWord_5 (by decide) ?_
    refine wx_irem hx hb dX2_hasWholeWord_6 (by omega) (by omega) (by omega) ?_
    refine wx_if_ne (tgt := 24) hx hb dX2_hasWholeWord_7 (by decide) (by omega) (fun c_2 => ?_) (fun c_2 => ?_)
    · skip
      refine lv_iconst (v := nI 0) hx hb dX2_hasWholeWord_24 (by decide) ?_
      have hP9 := hP.sub (ws' := [(h0, .inr (2, [.ref b0, .int (nI len)])), (b0, .inl (cB, 3000, .inl f))]) [0, 1] rfl
      have hD9 := hD.sub (ws' := [(h0, .inr (2, [.ref b0, .int (nI len)])), (b0, .inl (cB, 3000, .inl f))]) [0, 1] (by decide) rfl
      exact W.zret (v := nI 0) hx hb hr (by first | rfl | decide) (fun t ht hW => ⟨⟨(nI 0), (), rfl, by rw [if_neg (by omega)], by rw [ht]; exact hP9, hD9⟩, hS.F ht⟩) hS.2.2 dX2_hasWholeWord_25
    · skip
      refine lv_iload_n hx hb dX2_hasWholeWord_10 rfl (lv_at hl 1 rfl) ?_
      refine lv_aload_n hx hb dX2_hasWholeWord_11 rfl (lv_at hl 0 rfl) ?_
      refine va_get (D := (dC, dI)) (ci := 2) (v := .int (nI len)) (C := RX2) (T := TX2) (N := 2) hx hb hts (by decide +kernel) hown hK hP 0 rfl rfl 1 (by decide) (hts (.fieldLink RX2 15 "GlulxHeads$StoryFile" "length" "I") (by decide +kernel)) (fun _ h9 => h9) rfl dX2_hasWholeWord_12 ?_
      refine lv_iconst (v := nI 4) hx hb dX2_hasWholeWord_15 (by decide) ?_
      refine lv_isub hx hb dX2_hasWholeWord_16 ?_
      refine lv_icmp_gt (tgt := 24) hx hb dX2_hasWholeWord_17 (by decide) (fun c_3 => ?_) (fun c_3 => ?_)
      · skip
        rw [Int32.lt_iff_toInt_lt, nI_toInt (n := j) (by omega), pk_sub_toInt (a := len) (b := 4) (by omega) (by omega)] at c_3
        refine lv_iconst (v := nI 0) hx hb dX2_hasWholeWord_24 (by decide) ?_
        have hP9 := hP.sub (ws' := [(h0, .inr (2, [.ref b0, .int (nI len)])), (b0, .inl (cB, 3000, .inl f))]) [0, 1] rfl
        have hD9 := hD.sub (ws' := [(h0, .inr (2, [.ref b0, .int (nI len)])), (b0, .inl (cB, 3000, .inl f))]) [0, 1] (by decide) rfl
        exact W.zret (v := nI 0) hx hb hr (by first | rfl | decide) (fun t ht hW => ⟨⟨(nI 0), (), rfl, by rw [if_neg (by omega)], by rw [ht]; exact hP9, hD9⟩, hS.F ht⟩) hS.2.2 dX2_hasWholeWord_25
      · skip
        rw [Int32.lt_iff_toInt_lt, nI_toInt (n := j) (by omega), pk_sub_toInt (a := len) (b := 4) (by omega) (by omega)] at c_3
        refine lv_iconst (v := nI 1) hx hb dX2_hasWholeWord_20 (by decide) ?_
        refine lv_goto (tgt := 25) hx hb dX2_hasWholeWord_21 (by decide) ?_
        have hP9 := hP.sub (ws' := [(h0, .inr (2, [.ref b0, .int (nI len)])), (b0, .inl (cB, 3000, .inl f))]) [0, 1] rfl
        have hD9 := hD.sub (ws' := [(h0, .inr (2, [.ref b0, .int (nI len)])), (b0, .inl (cB, 3000, .inl f))]) [0, 1] (by decide) rfl
        exact W.zret (v := nI 1) hx hb hr (by first | rfl | decide) (fun t ht hW => ⟨⟨(nI 1), (), rfl, by rw [if_pos (by omega)], by rw [ht]; exact hP9, hD9⟩, hS.F ht⟩) hS.2.2 dX2_hasWholeWord_25
set_option maxHeartbeats 4000000 in
set_option maxRecDepth 100000 in
theorem c_X2_appendByte (l : Launch) (dC : Nat → ClassId) (dI : Nat → Nat → Nat) (cB cI cJ : ClassId) (sz : Nat) (h0 : Nat) (b0 : Nat) (f : Nat → Int32) (len : Nat) (fb : Nat → Nat) (v : Int32) (hF : fOk f len fb) (hl3 : len < 3000) : Met l yX2_appendByte wsX2_appendByte ({ frames := 0, cells := 0, slots := 0, locals := 0 }) (va_Pc [.ref h0, .int v] (wPre dC dI cB cI cJ sz [(h0, .inr (2, [.ref b0, .int (nI len)])), (b0, .inl (cB, 3000, .inl f))])) (va_Qv (fun (u : (Nat → Int32)) => fOk u (len + 1) (va_up fb len (uB v % 256))) (fun (u : (Nat → Int32)) => wPost dC dI (va_A [(h0, .inr (2, [.ref b0, .int (nI len)])), (b0, .inl (cB, 3000, .inl f))] sz) [(h0, .inr (2, [.ref b0, .int (nI (len + 1))])), (b0, .inl (cB, 3000, .inl u))]) (va_A [(h0, .inr (2, [.ref b0, .int (nI len)])), (b0, .inl (cB, 3000, .inl f))] sz)) 0 0 (va_A [(h0, .inr (2, [.ref b0, .int (nI len)])), (b0, .inl (cB, 3000, .inl f))] sz) := by
  refine Met.ofW (cc := cX2_appendByte) (maxL := 2) (ret := none) (by decide) rfl ?_
  intro p e s m args below meth c s₁ B hml hv
  obtain ⟨rfl, hsz, hP, hK, hD0, hN⟩ := hv
  have hx := B.exec
  have hb := B.bytes
  have hr := B.returns
  have hts := atoms_spec (ws := wsX2_appendByte) B.pre
  have hown : s.vm.findClass RX2 = some m.cls := findClass_of_methodNamed B.named
  have hlocks := B.notSynchronized
  subst hsz
  have hD := hD0.self (sz := s.heap.size)
  generalize hAe : va_A [(h0, .inr (2, [.ref b0, .int (nI len)])), (b0, .inl (cB, 3000, .inl f))] s.heap.size = A at hD ⊢
  have hA : ∀ q : Nat, s.heap.size ≤ q → A q := fun q h => by rw [← hAe]; exact Or.inr h
  have hS : va_S A s.heap s.heap [] := va_S.rf
  have hP : va_P (dC, dI) vwCl [(h0, .inr (2, [.ref b0, .int (nI len)])), (b0, .inl (cB, 3000, .inl f))] s.heap := hP
  have hl := lv_entry ([.ref h0, .int v]) (n := 2) (Nat.le_of_ble_eq_true rfl)
  rw [lg_entry_eq]
  generalize (lg_sl ([.ref h0, .int v]) ++ List.replicate (2 - (lg_sl ([.ref h0, .int v])).length) Slot.unset).toArray = ls at hl ⊢
  have hl : lv_has ls 2 [(0, .ref h0), (1, .int v)] := hl
  have hF1 := hF.1
  have hF2 := hF.2.1
  refine lv_aload_n hx hb dX2_appendByte_0 rfl (lv_at hl 0 rfl) ?_
  refine va_get (D := (dC, dI)) (ci := 2) (v := .int (nI len)) (C := RX2) (T := TX2) (N := 2) hx hb hts (by decide +kernel) hown hK hP 0 rfl rfl 1 (by decide) (hts (.fieldLink RX2 15 "GlulxHeads$StoryFile" "length" "I") (by decide +kernel)) (fun _ h9 => h9) rfl dX2_appendByte_1 ?_
  refine wx_if_lt (tgt := 38) hx hb dX2_appendByte_4 (by decide) (by omega) ?_
  refine lv_aload_n hx hb dX2_appendByte_7 rfl (lv_at hl 0 rfl) ?_
  refine va_get (D := (dC, dI)) (ci := 2) (v := .int (nI len)) (C := RX2) (T := TX2) (N := 2) hx hb hts (by decide +kernel) hown hK hP 0 rfl rfl 1 (by decide) (hts (.fieldLink RX2 15 "GlulxHeads$StoryFile" "length" "I") (by decide +kernel)) (fun _ h9 => h9) rfl dX2_appendByte_8 ?_
  refine lv_sipush (v := nI 3000) hx hb dX2_appendByte_11 (by decide) ?_
  refine wx_icmp_ge (tgt := 38) hx hb dX2_appendByte_14 (by decide) (by omega) (by omega) (fun c_2 => absurd c_2 (by omega)) (fun c_2 => ?_)
  refine lv_aload_n hx hb dX2_appendByte_17 rfl (lv_at hl 0 rfl) ?_
  refine va_get (D := (dC, dI)) (ci := 2) (v := .ref b0) (C := RX2) (T := TX2) (N := 2) hx hb hts (by decide +kernel) hown hK hP 0 rfl rfl 0 (by decide) (hts (.fieldLink RX2 9 "GlulxHeads$StoryFile" "bytes" "[B") (by decide +kernel)) (fun _ h9 => h9) rfl dX2_appendByte_18 ?_
  refine lv_aload_n hx hb dX2_appendByte_21 rfl (lv_at hl 0 rfl) ?_
  refine va_get (D := (dC, dI)) (ci := 2) (v := .int (nI len)) (C := RX2) (T := TX2) (N := 2) hx hb hts (by decide +kernel) hown hK hP 0 rfl rfl 1 (by decide) (hts (.fieldLink RX2 15 "GlulxHeads$StoryFile" "length" "I") (by decide +kernel)) (fun _ h9 => h9) rfl dX2_appendByte_22 ?_
  refine lv_iload_n hx hb dX2_appendByte_25 rfl (lv_at hl 1 rfl) ?_
  refine lv_i2b (v := v.toInt8.toInt32) hx hb dX2_appendByte_26 rfl ?_
  refine wx_bastc hx hb hK hP hD hS 1 0 rfl rfl (by omega) (by decide) dX2_appendByte_27 (fun H locs hP hD hS => ?_)
  have hP : va_P (dC, dI) vwCl [(h0, .inr (2, [.ref b0, .int (nI len)])), (b0, .inl (cB, 3000, .inl (upd f len v.toInt8.toInt32)))] H := hP
  have hD : va_D A [(h0, .inr (2, [.ref b0, .int (nI len)])), (b0, .inl (cB, 3000, .inl (upd f len v.toInt8.toInt32)))] := hD
  refine lv_aload_n hx hb dX2_appendByte_28 rfl (lv_at hl 0 rfl) ?_
  refine lv_dup hx hb dX2_appendByte_29 rfl ?_
  refine va_get (D := (dC, dI)) (ci := 2) (v := .int (nI len)) (C := RX2) (T := TX2) (N := 2) hx hb hts (by decide +kernel) hown hK hP 0 rfl rfl 1 (by decide) (hts (.fieldLink RX2 15 "GlulxHeads$StoryFile" "length" "I") (by decide +kernel)) (fun _ h9 => h9) rfl dX2_appendByte_30 ?_
  refine lv_iconst (v := nI 1) hx hb dX2_appendByte_33 (by decide) ?_
  refine wx_iadd hx hb dX2_appendByte_34 ?_
  refine va_put (D := (dC, dI)) (ci := 2) (v := .int (nI (len + 1))) (ty := .int) (C := RX2) (T := TX2) (N := 2) hx hb hts (by decide +kernel) tyX2 tyX2_ok nmX2 hown hK hP hD hS 0 rfl rfl 1 (by decide) (hts (.fieldLink RX2 15 "GlulxHeads$StoryFile" "length" "I") (by decide +kernel)) (fun _ h9 => h9) rfl (by decide +kernel) rfl rfl (Nat.le_of_ble_eq_true rfl) dX2_appendByte_35 (fun H locs hP hD hS => ?_)
  have hP : va_P (dC, dI) vwCl [(h0, .inr (2, [.ref b0, .int (nI (len + 1))])), (b0, .inl (cB, 3000, .inl (upd f len v.toInt8.toInt32)))] H := hP
  have hD : va_D A [(h0, .inr (2, [.ref b0, .int (nI (len + 1))])), (b0, .inl (cB, 3000, .inl (upd f len v.toInt8.toInt32)))] := hD
  have hP9 := hP.sub (ws' := [(h0, .inr (2, [.ref b0, .int (nI (len + 1))])), (b0, .inl (cB, 3000, .inl (upd f len v.toInt8.toInt32)))]) [0, 1] rfl
  have hD9 := hD.sub (ws' := [(h0, .inr (2, [.ref b0, .int (nI (len + 1))])), (b0, .inl (cB, 3000, .inl (upd f len v.toInt8.toInt32)))]) [0, 1] (by decide) rfl
  exact W.vret hx hb hr (fun t ht hW => ⟨⟨((upd f len v.toInt8.toInt32)), rfl, fOk_app hF hl3, by rw [ht]; exact hP9, hD9⟩, hS.F ht⟩) hS.2.2 dX2_appendByte_38
set_option maxHeartbeats 4000000 in
set_option maxRecDepth 100000 in
theorem c_X2_appendWord (l : Launch) (dC : Nat → ClassId) (dI : Nat → Nat → Nat) (cB cI cJ : ClassId) (sz : Nat) (h0 : Nat) (b0 : Nat) (f : Nat → Int32) (len : Nat) (fb : Nat → Nat) (v : Int32) (hF : fOk f len fb) (hl3 : len + 4 ≤ 3000) : Met l yX2_appendWord wsX2_appendWord ({ frames := 1, cells := 0, slots := 0, locals := 21 }) (va_Pc [.ref h0, .int v] (wPre dC dI cB cI cJ sz [(h0, .inr (2, [.ref b0, .int (nI len)])), (b0, .inl (cB, 3000, .inl f))])) (va_Qv (fun (u : (Nat → Int32)) => fOk u (len + 4) (up4 fb len v)) (fun (u : (Nat → Int32)) => wPost dC dI (va_A [(h0, .inr (2, [.ref b0, .int (nI len)])), (b0, .inl (cB, 3000, .inl f))] sz) [(h0, .inr (2, [.ref b0, .int (nI (len + 4))])), (b0, .inl (cB, 3000, .inl u))]) (va_A [(h0, .inr (2, [.ref b0, .int (nI len)])), (b0, .inl (cB, 3000, .inl f))] sz)) 0 0 (va_A [(h0, .inr (2, [.ref b0, .int (nI len)])), (b0, .inl (cB, 3000, .inl f))] sz) := by
  refine Met.ofW (cc := cX2_appendWord) (maxL := 2) (ret := none) (by decide) rfl ?_
  intro p e s m args below meth c s₁ B hml hv
  obtain ⟨rfl, hsz, hP, hK, hD0, hN⟩ := hv
  have hx := B.exec
  have hb := B.bytes
  have hr := B.returns
  have hts := atoms_spec (ws := wsX2_appendWord) B.pre
  have hown : s.vm.findClass RX2 = some m.cls := findClass_of_methodNamed B.named
  have hlocks := B.notSynchronized
  subst hsz
  have hD := hD0.self (sz := s.heap.size)
  generalize hAe : va_A [(h0, .inr (2, [.ref b0, .int (nI len)])), (b0, .inl (cB, 3000, .inl f))] s.heap.size = A at hD ⊢
  have hA : ∀ q : Nat, s.heap.size ≤ q → A q := fun q h => by rw [← hAe]; exact Or.inr h
  have hS : va_S A s.heap s.heap [] := va_S.rf
  have hP : va_P (dC, dI) vwCl [(h0, .inr (2, [.ref b0, .int (nI len)])), (b0, .inl (cB, 3000, .inl f))] s.heap := hP
  have hl := lv_entry ([.ref h0, .int v]) (n := 2) (Nat.le_of_ble_eq_true rfl)
  rw [lg_entry_eq]
  generalize (lg_sl ([.ref h0, .int v]) ++ List.replicate (2 - (lg_sl ([.ref h0, .int v])).length) Slot.unset).toArray = ls at hl ⊢
  have hl : lv_has ls 2 [(0, .ref h0), (1, .int v)] := hl
  have hF1 := hF.1
  have hF2 := hF.2.1
  refine lv_aload_n hx hb dX2_appendWord_0 rfl (lv_at hl 0 rfl) ?_
  refine lv_iload_n hx hb dX2_appendWord_1 rfl (lv_at hl 1 rfl) ?_
  refine lv_bipush (v := nI 24) hx hb dX2_appendWord_2 (by decide) ?_
  refine lv_iushr hx hb dX2_appendWord_4 rfl ?_
  have hPc := hP.sub (ws' := [(h0, .inr (2, [.ref b0, .int (nI len)])), (b0, .inl (cB, 3000, .inl f))]) [0, 1] rfl
  have hDc := hD.sub (ws' := [(h0, .inr (2, [.ref b0, .int (nI len)])), (b0, .inl (cB, 3000, .inl f))]) [0, 1] (by decide) rfl
  have hFc := va_free (wc := [(h0, .inr (2, [.ref b0, .int (nI len)])), (b0, .inl (cB, 3000, .inl f))]) hD hS hA [0, 1] rfl
  refine va_callv (va_runV (As := [.int ((v.toUInt32 >>> ((nI 24).toUInt32 &&& Int32.toUInt32 31)).toInt32)]) (rest := []) ⟨hx, hb, hml, hown, hts⟩ (c_X2_appendByte l dC dI cB cI cJ s.heap.size h0 b0 f len fb ((v.toUInt32 >>> ((nI 24).toUInt32 &&& Int32.toUInt32 31)).toInt32) hF (by omega)) (cwV 1 hts gX2_appendWord_X2_appendByte rfl rfl rfl (by decide +kernel) ⟨Nat.le_of_ble_eq_true rfl, Nat.le_of_ble_eq_true rfl⟩) ⟨wBlind, va_recv hK hPc (ci := 2) (q0 := 0) rfl rfl, wGo hK hPc hDc hN⟩ rfl rfl hl.1 rfl (lv_room (Nat.le_of_ble_eq_true rfl)) dX2_appendWord_5 ⟨show 0 ≤ 0 by decide, show 0 ≤ 0 by decide⟩) hS (fun q _ h => hFc q h) hFc (fun u t H1 locs ht hvm w_3 hB hz1 hk1 hS => ?_)
  obtain ⟨f2_4, rfl⟩ : ∃ z, z = u := ⟨_, rfl⟩
  obtain ⟨hP1, hD1⟩ := hB
  rw [ht] at hP1
  try dsimp only at w_3
  obtain ⟨hP, hD⟩ := va_join (wr := []) (w1 := [(h0, .inr (2, [.ref b0, .int (nI (len + 1))])), (b0, .inl (cB, 3000, .inl f2_4))]) hP hD [0, 1] [] rfl rfl (by decide) (by decide) hk1 hFc hP1 hD1
  clear hPc hDc hFc hP1 hD1 hz1 hk1 hvm
  generalize H1 = H at hP hS ⊢
  have hP : va_P (dC, dI) vwCl [(h0, .inr (2, [.ref b0, .int (nI (len + 1))])), (b0, .inl (cB, 3000, .inl f2_4))] H := hP
  have hD : va_D A [(h0, .inr (2, [.ref b0, .int (nI (len + 1))])), (b0, .inl (cB, 3000, .inl f2_4))] := hD
  have hG1 := w_3
  refine lv_aload_n hx hb dX2_appendWord_8 rfl (lv_at hl 0 rfl) ?_
  refine lv_iload_n hx hb dX2_appendWord_9 rfl (lv_at hl 1 rfl) ?_
  refine lv_bipush (v := nI 16) hx hb dX2_appendWord_10 (by decide) ?_
  refine lv_iushr hx hb dX2_appendWord_12 rfl ?_
  have hPc := hP.sub (ws' := [(h0, .inr (2, [.ref b0, .int (nI (len + 1))])), (b0, .inl (cB, 3000, .inl f2_4))]) [0, 1] rfl
  have hDc := hD.sub (ws' := [(h0, .inr (2, [.ref b0, .int (nI (len + 1))])), (b0, .inl (cB, 3000, .inl f2_4))]) [0, 1] (by decide) rfl
  have hFc := va_free (wc := [(h0, .inr (2, [.ref b0, .int (nI (len + 1))])), (b0, .inl (cB, 3000, .inl f2_4))]) hD hS hA [0, 1] rfl
  refine va_callv (va_runV (As := [.int ((v.toUInt32 >>> ((nI 16).toUInt32 &&& Int32.toUInt32 31)).toInt32)]) (rest := []) ⟨hx, hb, hml, hown, hts⟩ (c_X2_appendByte l dC dI cB cI cJ H.size h0 b0 f2_4 (len + 1) (va_up fb len (uB ((v.toUInt32 >>> ((nI 24).toUInt32 &&& Int32.toUInt32 31)).toInt32) % 256)) ((v.toUInt32 >>> ((nI 16).toUInt32 &&& Int32.toUInt32 31)).toInt32) hG1 (by omega)) (cwV 1 hts gX2_appendWord_X2_appendByte rfl rfl rfl (by decide +kernel) ⟨Nat.le_of_ble_eq_true rfl, Nat.le_of_ble_eq_true rfl⟩) ⟨wBlind, va_recv hK hPc (ci := 2) (q0 := 0) rfl rfl, wGo hK hPc hDc hN⟩ rfl rfl hl.1 rfl (lv_room (Nat.le_of_ble_eq_true rfl)) dX2_appendWord_13 ⟨show 0 ≤ 0 by decide, show 0 ≤ 0 by decide⟩) hS (fun q _ h => hFc q h) hFc (fun u t H1 locs ht hvm w_7 hB hz1 hk1 hS => ?_)
  obtain ⟨f2_8, rfl⟩ : ∃ z, z = u := ⟨_, rfl⟩
  obtain ⟨hP1, hD1⟩ := hB
  rw [ht] at hP1
  try dsimp only at w_7
  obtain ⟨hP, hD⟩ := va_join (wr := []) (w1 := [(h0, .inr (2, [.ref b0, .int (nI ((len + 1) + 1))])), (b0, .inl (cB, 3000, .inl f2_8))]) hP hD [0, 1] [] rfl rfl (by decide) (by decide) hk1 hFc hP1 hD1
  clear hPc hDc hFc hP1 hD1 hz1 hk1 hvm
  generalize H1 = H at hP hS ⊢
  have hP : va_P (dC, dI) vwCl [(h0, .inr (2, [.ref b0, .int (nI ((len + 1) + 1))])), (b0, .inl (cB, 3000, .inl f2_8))] H := hP
  have hD : va_D A [(h0, .inr (2, [.ref b0, .int (nI ((len + 1) + 1))])), (b0, .inl (cB, 3000, .inl f2_8))] := hD
  have hG2 := w_7
  refine lv_aload_n hx hb dX2_appendWord_16 rfl (lv_at hl 0 rfl) ?_
  refine lv_iload_n hx hb dX2_appendWord_17 rfl (lv_at hl 1 rfl) ?_
  refine lv_bipush (v := nI 8) hx hb dX2_appendWord_18 (by decide) ?_
  refine lv_iushr hx hb dX2_appendWord_20 rfl ?_
  have hPc := hP.sub (ws' := [(h0, .inr (2, [.ref b0, .int (nI (len + 2))])), (b0, .inl (cB, 3000, .inl f2_8))]) [0, 1] rfl
  have hDc := hD.sub (ws' := [(h0, .inr (2, [.ref b0, .int (nI (len + 2))])), (b0, .inl (cB, 3000, .inl f2_8))]) [0, 1] (by decide) rfl
  have hFc := va_free (wc := [(h0, .inr (2, [.ref b0, .int (nI (len + 2))])), (b0, .inl (cB, 3000, .inl f2_8))]) hD hS hA [0, 1] rfl
  refine va_callv (va_runV (As := [.int ((v.toUInt32 >>> ((nI 8).toUInt32 &&& Int32.toUInt32 31)).toInt32)]) (rest := []) ⟨hx, hb, hml, hown, hts⟩ (c_X2_appendByte l dC dI cB cI cJ H.size h0 b0 f2_8 (len + 2) (va_up (va_up fb len (uB ((v.toUInt32 >>> ((nI 24).toUInt32 &&& Int32.toUInt32 31)).toInt32) % 256)) (len + 1) (uB ((v.toUInt32 >>> ((nI 16).toUInt32 &&& Int32.toUInt32 31)).toInt32) % 256)) ((v.toUInt32 >>> ((nI 8).toUInt32 &&& Int32.toUInt32 31)).toInt32) hG2 (by omega)) (cwV 1 hts gX2_appendWord_X2_appendByte rfl rfl rfl (by decide +kernel) ⟨Nat.le_of_ble_eq_true rfl, Nat.le_of_ble_eq_true rfl⟩) ⟨wBlind, va_recv hK hPc (ci := 2) (q0 := 0) rfl rfl, wGo hK hPc hDc hN⟩ rfl rfl hl.1 rfl (lv_room (Nat.le_of_ble_eq_true rfl)) dX2_appendWord_21 ⟨show 0 ≤ 0 by decide, show 0 ≤ 0 by decide⟩) hS (fun q _ h => hFc q h) hFc (fun u t H1 locs ht hvm w_11 hB hz1 hk1 hS => ?_)
  obtain ⟨f2_12, rfl⟩ : ∃ z, z = u := ⟨_, rfl⟩
  obtain ⟨hP1, hD1⟩ := hB
  rw [ht] at hP1
  try dsimp only at w_11
  obtain ⟨hP, hD⟩ := va_join (wr := []) (w1 := [(h0, .inr (2, [.ref b0, .int (nI ((len + 2) + 1))])), (b0, .inl (cB, 3000, .inl f2_12))]) hP hD [0, 1] [] rfl rfl (by decide) (by decide) hk1 hFc hP1 hD1
  clear hPc hDc hFc hP1 hD1 hz1 hk1 hvm
  generalize H1 = H at hP hS ⊢
  have hP : va_P (dC, dI) vwCl [(h0, .inr (2, [.ref b0, .int (nI ((len + 2) + 1))])), (b0, .inl (cB, 3000, .inl f2_12))] H := hP
  have hD : va_D A [(h0, .inr (2, [.ref b0, .int (nI ((len + 2) + 1))])), (b0, .inl (cB, 3000, .inl f2_12))] := hD
  have hG3 := w_11
  refine lv_aload_n hx hb dX2_appendWord_24 rfl (lv_at hl 0 rfl) ?_
  refine lv_iload_n hx hb dX2_appendWord_25 rfl (lv_at hl 1 rfl) ?_
  have hPc := hP.sub (ws' := [(h0, .inr (2, [.ref b0, .int (nI (len + 3))])), (b0, .inl (cB, 3000, .inl f2_12))]) [0, 1] rfl
  have hDc := hD.sub (ws' := [(h0, .inr (2, [.ref b0, .int (nI (len + 3))])), (b0, .inl (cB, 3000, .inl f2_12))]) [0, 1] (by decide) rfl
  have hFc := va_free (wc := [(h0, .inr (2, [.ref b0, .int (nI (len + 3))])), (b0, .inl (cB, 3000, .inl f2_12))]) hD hS hA [0, 1] rfl
  refine va_callv (va_runV (As := [.int v]) (rest := []) ⟨hx, hb, hml, hown, hts⟩ (c_X2_appendByte l dC dI cB cI cJ H.size h0 b0 f2_12 (len + 3) (va_up (va_up (va_up fb len (uB ((v.toUInt32 >>> ((nI 24).toUInt32 &&& Int32.toUInt32 31)).toInt32) % 256)) (len + 1) (uB ((v.toUInt32 >>> ((nI 16).toUInt32 &&& Int32.toUInt32 31)).toInt32) % 256)) (len + 2) (uB ((v.toUInt32 >>> ((nI 8).toUInt32 &&& Int32.toUInt32 31)).toInt32) % 256)) v hG3 (by omega)) (cwV 1 hts gX2_appendWord_X2_appendByte rfl rfl rfl (by decide +kernel) ⟨Nat.le_of_ble_eq_true rfl, Nat.le_of_ble_eq_true rfl⟩) ⟨wBlind, va_recv hK hPc (ci := 2) (q0 := 0) rfl rfl, wGo hK hPc hDc hN⟩ rfl rfl hl.1 rfl (lv_room (Nat.le_of_ble_eq_true rfl)) dX2_appendWord_26 ⟨show 0 ≤ 0 by decide, show 0 ≤ 0 by decide⟩) hS (fun q _ h => hFc q h) hFc (fun u t H1 locs ht hvm w_15 hB hz1 hk1 hS => ?_)
  obtain ⟨f2_16, rfl⟩ : ∃ z, z = u := ⟨_, rfl⟩
  obtain ⟨hP1, hD1⟩ := hB
  rw [ht] at hP1
  try dsimp only at w_15
  obtain ⟨hP, hD⟩ := va_join (wr := []) (w1 := [(h0, .inr (2, [.ref b0, .int (nI ((len + 3) + 1))])), (b0, .inl (cB, 3000, .inl f2_16))]) hP hD [0, 1] [] rfl rfl (by decide) (by decide) hk1 hFc hP1 hD1
  clear hPc hDc hFc hP1 hD1 hz1 hk1 hvm
  generalize H1 = H at hP hS ⊢
  have hP : va_P (dC, dI) vwCl [(h0, .inr (2, [.ref b0, .int (nI ((len + 3) + 1))])), (b0, .inl (cB, 3000, .inl f2_16))] H := hP
  have hD : va_D A [(h0, .inr (2, [.ref b0, .int (nI ((len + 3) + 1))])), (b0, .inl (cB, 3000, .inl f2_16))] := hD
  have hG4 := w_15
  have hP9 := hP.sub (ws' := [(h0, .inr (2, [.ref b0, .int (nI (len + 4))])), (b0, .inl (cB, 3000, .inl f2_16))]) [0, 1] rfl
  have hD9 := hD.sub (ws' := [(h0, .inr (2, [.ref b0, .int (nI (len + 4))])), (b0, .inl (cB, 3000, .inl f2_16))]) [0, 1] (by decide) rfl
  exact W.vret hx hb hr (fun t ht hW => ⟨⟨(f2_16), rfl, (by rw [← up4_eq]; exact hG4), by rw [ht]; exact hP9, hD9⟩, hS.F ht⟩) hS.2.2 dX2_appendWord_29
set_option maxHeartbeats 4000000 in
set_option maxRecDepth 100000 in
theorem c_X2_putByte (l : Launch) (dC : Nat → ClassId) (dI : Nat → Nat → Nat) (cB cI cJ : ClassId) (sz : Nat) (h0 : Nat) (b0 : Nat) (f : Nat → Int32) (len : Nat) (fb : Nat → Nat) (j : Nat) (v : Int32) (hF : fOk f len fb) (hj : j < len) : Met l yX2_putByte wsX2_putByte ({ frames := 0, cells := 0, slots := 0, locals := 0 }) (va_Pc [.ref h0, .int (nI j), .int v] (wPre dC dI cB cI cJ sz [(h0, .inr (2, [.ref b0, .int (nI len)])), (b0, .inl (cB, 3000, .inl f))])) (va_Qv (fun (u : (Nat → Int32)) => fOk u len (va_up fb j (uB v % 256))) (fun (u : (Nat → Int32)) => wPost dC dI (va_A [(h0, .inr (2, [.ref b0, .int (nI len)])), (b0, .inl (cB, 3000, .inl f))] sz) [(h0, .inr (2, [.ref b0, .int (nI len)])), (b0, .inl (cB, 3000, .inl u))]) (va_A [(h0, .inr (2, [.ref b0, .int (nI len)])), (b0, .inl (cB, 3000, .inl f))] sz)) 0 0 (va_A [(h0, .inr (2, [.ref b0, .int (nI len)])), (b0, .inl (cB, 3000, .inl f))] sz) := by
  refine Met.ofW (cc := cX2_putByte) (maxL := 3) (ret := none) (by decide) rfl ?_
  intro p e s m args below meth c s₁ B hml hv
  obtain ⟨rfl, hsz, hP, hK, hD0, hN⟩ := hv
  have hx := B.exec
  have hb := B.bytes
  have hr := B.returns
  have hts := atoms_spec (ws := wsX2_putByte) B.pre
  have hown : s.vm.findClass RX2 = some m.cls := findClass_of_methodNamed B.named
  have hlocks := B.notSynchronized
  subst hsz
  have hD := hD0.self (sz := s.heap.size)
  generalize hAe : va_A [(h0, .inr (2, [.ref b0, .int (nI len)])), (b0, .inl (cB, 3000, .inl f))] s.heap.size = A at hD ⊢
  have hA : ∀ q : Nat, s.heap.size ≤ q → A q := fun q h => by rw [← hAe]; exact Or.inr h
  have hS : va_S A s.heap s.heap [] := va_S.rf
  have hP : va_P (dC, dI) vwCl [(h0, .inr (2, [.ref b0, .int (nI len)])), (b0, .inl (cB, 3000, .inl f))] s.heap := hP
  have hl := lv_entry ([.ref h0, .int (nI j), .int v]) (n := 3) (Nat.le_of_ble_eq_true rfl)
  rw [lg_entry_eq]
  generalize (lg_sl ([.ref h0, .int (nI j), .int v]) ++ List.replicate (3 - (lg_sl ([.ref h0, .int (nI j), .int v])).length) Slot.unset).toArray = ls at hl ⊢
  have hl : lv_has ls 3 [(0, .ref h0), (1, .int (nI j)), (2, .int v)] := hl
  have hF1 := hF.1
  have hF2 := hF.2.1
  refine lv_iload_n hx hb dX2_putByte_0 rfl (lv_at hl 1 rfl) ?_
  refine wx_if_lt (tgt := 27) hx hb dX2_putByte_1 (by decide) (by omega) ?_
  refine lv_iload_n hx hb dX2_putByte_4 rfl (lv_at hl 1 rfl) ?_
  refine lv_aload_n hx hb dX2_putByte_5 rfl (lv_at hl 0 rfl) ?_
  refine va_get (D := (dC, dI)) (ci := 2) (v := .int (nI len)) (C := RX2) (T := TX2) (N := 2) hx hb hts (by decide +kernel) hown hK hP 0 rfl rfl 1 (by decide) (hts (.fieldLink RX2 15 "GlulxHeads$StoryFile" "length" "I") (by decide +kernel)) (fun _ h9 => h9) rfl dX2_putByte_6 ?_
  refine wx_icmp_ge (tgt := 27) hx hb dX2_putByte_9 (by decide) (by omega) (by omega) (fun c_2 => absurd c_2 (by omega)) (fun c_2 => ?_)
  refine lv_iload_n hx hb dX2_putByte_12 rfl (lv_at hl 1 rfl) ?_
  refine lv_sipush (v := nI 3000) hx hb dX2_putByte_13 (by decide) ?_
  refine wx_icmp_ge (tgt := 27) hx hb dX2_putByte_16 (by decide) (by omega) (by omega) (fun c_3 => absurd c_3 (by omega)) (fun c_3 => ?_)
  refine lv_aload_n hx hb dX2_putByte_19 rfl (lv_at hl 0 rfl) ?_
  refine va_get (D := (dC, dI)) (ci := 2) (v := .ref b0) (C := RX2) (T := TX2) (N := 2) hx hb hts (by decide +kernel) hown hK hP 0 rfl rfl 0 (by decide) (hts (.fieldLink RX2 9 "GlulxHeads$StoryFile" "bytes" "[B") (by decide +kernel)) (fun _ h9 => h9) rfl dX2_putByte_20 ?_
  refine lv_iload_n hx hb dX2_putByte_23 rfl (lv_at hl 1 rfl) ?_
  refine lv_iload_n hx hb dX2_putByte_24 rfl (lv_at hl 2 rfl) ?_
  refine lv_i2b (v := v.toInt8.toInt32) hx hb dX2_putByte_25 rfl ?_
  refine wx_bastc hx hb hK hP hD hS 1 0 rfl rfl (by omega) (by decide) dX2_putByte_26 (fun H locs hP hD hS => ?_)
  have hP : va_P (dC, dI) vwCl [(h0, .inr (2, [.ref b0, .int (nI len)])), (b0, .inl (cB, 3000, .inl (upd f j v.toInt8.toInt32)))] H := hP
  have hD : va_D A [(h0, .inr (2, [.ref b0, .int (nI len)])), (b0, .inl (cB, 3000, .inl (upd f j v.toInt8.toInt32)))] := hD
  have hP9 := hP.sub (ws' := [(h0, .inr (2, [.ref b0, .int (nI len)])), (b0, .inl (cB, 3000, .inl (upd f j v.toInt8.toInt32)))]) [0, 1] rfl
  have hD9 := hD.sub (ws' := [(h0, .inr (2, [.ref b0, .int (nI len)])), (b0, .inl (cB, 3000, .inl (upd f j v.toInt8.toInt32)))]) [0, 1] (by decide) rfl
  exact W.vret hx hb hr (fun t ht hW => ⟨⟨((upd f j v.toInt8.toInt32)), rfl, fOk_put hF hj, by rw [ht]; exact hP9, hD9⟩, hS.F ht⟩) hS.2.2 dX2_putByte_27
set_option maxHeartbeats 4000000 in
set_option maxRecDepth 100000 in
theorem c_X2_putWord (l : Launch) (dC : Nat → ClassId) (dI : Nat → Nat → Nat) (cB cI cJ : ClassId) (sz : Nat) (h0 : Nat) (b0 : Nat) (f : Nat → Int32) (len : Nat) (fb : Nat → Nat) (j : Nat) (v : Int32) (hF : fOk f len fb) (hj : j + 4 ≤ len) : Met l yX2_putWord wsX2_putWord ({ frames := 1, cells := 0, slots := 0, locals := 22 }) (va_Pc [.ref h0, .int (nI j), .int v] (wPre dC dI cB cI cJ sz [(h0, .inr (2, [.ref b0, .int (nI len)])), (b0, .inl (cB, 3000, .inl f))])) (va_Qv (fun (u : (Nat → Int32)) => fOk u len (up4 fb j v)) (fun (u : (Nat → Int32)) => wPost dC dI (va_A [(h0, .inr (2, [.ref b0, .int (nI len)])), (b0, .inl (cB, 3000, .inl f))] sz) [(h0, .inr (2, [.ref b0, .int (nI len)])), (b0, .inl (cB, 3000, .inl u))]) (va_A [(h0, .inr (2, [.ref b0, .int (nI len)])), (b0, .inl (cB, 3000, .inl f))] sz)) 0 0 (va_A [(h0, .inr (2, [.ref b0, .int (nI len)])), (b0, .inl (cB, 3000, .inl f))] sz) := by
  refine Met.ofW (cc := cX2_putWord) (maxL := 3) (ret := none) (by decide) rfl ?_
  intro p e s m args below meth c s₁ B hml hv
  obtain ⟨rfl, hsz, hP, hK, hD0, hN⟩ := hv
  have hx := B.exec
  have hb := B.bytes
  have hr := B.returns
  have hts := atoms_spec (ws := wsX2_putWord) B.pre
  have hown : s.vm.findClass RX2 = some m.cls := findClass_of_methodNamed B.named
  have hlocks := B.notSynchronized
  subst hsz
  have hD := hD0.self (sz := s.heap.size)
  generalize hAe : va_A [(h0, .inr (2, [.ref b0, .int (nI len)])), (b0, .inl (cB, 3000, .inl f))] s.heap.size = A at hD ⊢
  have hA : ∀ q : Nat, s.heap.size ≤ q → A q := fun q h => by rw [← hAe]; exact Or.inr h
  have hS : va_S A s.heap s.heap [] := va_S.rf
  have hP : va_P (dC, dI) vwCl [(h0, .inr (2, [.ref b0, .int (nI len)])), (b0, .inl (cB, 3000, .inl f))] s.heap := hP
  have hl := lv_entry ([.ref h0, .int (nI j), .int v]) (n := 3) (Nat.le_of_ble_eq_true rfl)
  rw [lg_entry_eq]
  generalize (lg_sl ([.ref h0, .int (nI j), .int v]) ++ List.replicate (3 - (lg_sl ([.ref h0, .int (nI j), .int v])).length) Slot.unset).toArray = ls at hl ⊢
  have hl : lv_has ls 3 [(0, .ref h0), (1, .int (nI j)), (2, .int v)] := hl
  have hF1 := hF.1
  have hF2 := hF.2.1
  refine lv_aload_n hx hb dX2_putWord_0 rfl (lv_at hl 0 rfl) ?_
  refine lv_iload_n hx hb dX2_putWord_1 rfl (lv_at hl 1 rfl) ?_
  refine lv_iload_n hx hb dX2_putWord_2 rfl (lv_at hl 2 rfl) ?_
  refine lv_bipush (v := nI 24) hx hb dX2_putWord_3 (by decide) ?_
  refine lv_iushr hx hb dX2_putWord_5 rfl ?_
  have hPc := hP.sub (ws' := [(h0, .inr (2, [.ref b0, .int (nI len)])), (b0, .inl (cB, 3000, .inl f))]) [0, 1] rfl
  have hDc := hD.sub (ws' := [(h0, .inr (2, [.ref b0, .int (nI len)])), (b0, .inl (cB, 3000, .inl f))]) [0, 1] (by decide) rfl
  have hFc := va_free (wc := [(h0, .inr (2, [.ref b0, .int (nI len)])), (b0, .inl (cB, 3000, .inl f))]) hD hS hA [0, 1] rfl
  refine va_callv (va_runV (As := [.int (nI j), .int ((v.toUInt32 >>> ((nI 24).toUInt32 &&& Int32.toUInt32 31)).toInt32)]) (rest := []) ⟨hx, hb, hml, hown, hts⟩ (c_X2_putByte l dC dI cB cI cJ s.heap.size h0 b0 f len fb j ((v.toUInt32 >>> ((nI 24).toUInt32 &&& Int32.toUInt32 31)).toInt32) hF (by omega)) (cwV 2 hts gX2_putWord_X2_putByte rfl rfl rfl (by decide +kernel) ⟨Nat.le_of_ble_eq_true rfl, Nat.le_of_ble_eq_true rfl⟩) ⟨wBlind, va_recv hK hPc (ci := 2) (q0 := 0) rfl rfl, wGo hK hPc hDc hN⟩ rfl rfl hl.1 rfl (lv_room (Nat.le_of_ble_eq_true rfl)) dX2_putWord_6 ⟨show 0 ≤ 0 by decide, show 0 ≤ 0 by decide⟩) hS (fun q _ h => hFc q h) hFc (fun u t H1 locs ht hvm w_3 hB hz1 hk1 hS => ?_)
  obtain ⟨f2_4, rfl⟩ : ∃ z, z = u := ⟨_, rfl⟩
  obtain ⟨hP1, hD1⟩ := hB
  rw [ht] at hP1
  try dsimp only at w_3
  obtain ⟨hP, hD⟩ := va_join (wr := []) (w1 := [(h0, .inr (2, [.ref b0, .int (nI len)])), (b0, .inl (cB, 3000, .inl f2_4))]) hP hD [0, 1] [] rfl rfl (by decide) (by decide) hk1 hFc hP1 hD1
  clear hPc hDc hFc hP1 hD1 hz1 hk1 hvm
  generalize H1 = H at hP hS ⊢
  have hP : va_P (dC, dI) vwCl [(h0, .inr (2, [.ref b0, .int (nI len)])), (b0, .inl (cB, 3000, .inl f2_4))] H := hP
  have hD : va_D A [(h0, .inr (2, [.ref b0, .int (nI len)])), (b0, .inl (cB, 3000, .inl f2_4))] := hD
  have hG1 := w_3
  refine lv_aload_n hx hb dX2_putWord_9 rfl (lv_at hl 0 rfl) ?_
  refine lv_iload_n hx hb dX2_putWord_10 rfl (lv_at hl 1 rfl) ?_
  refine lv_iconst (v := nI 1) hx hb dX2_putWord_11 (by decide) ?_
  refine wx_iadd hx hb dX2_putWord_12 ?_
  refine lv_iload_n hx hb dX2_putWord_13 rfl (lv_at hl 2 rfl) ?_
  refine lv_bipush (v := nI 16) hx hb dX2_putWord_14 (by decide) ?_
  refine lv_iushr hx hb dX2_putWord_16 rfl ?_
  have hPc := hP.sub (ws' := [(h0, .inr (2, [.ref b0, .int (nI len)])), (b0, .inl (cB, 3000, .inl f2_4))]) [0, 1] rfl
  have hDc := hD.sub (ws' := [(h0, .inr (2, [.ref b0, .int (nI len)])), (b0, .inl (cB, 3000, .inl f2_4))]) [0, 1] (by decide) rfl
  have hFc := va_free (wc := [(h0, .inr (2, [.ref b0, .int (nI len)])), (b0, .inl (cB, 3000, .inl f2_4))]) hD hS hA [0, 1] rfl
  refine va_callv (va_runV (As := [.int (nI (j + 1)), .int ((v.toUInt32 >>> ((nI 16).toUInt32 &&& Int32.toUInt32 31)).toInt32)]) (rest := []) ⟨hx, hb, hml, hown, hts⟩ (c_X2_putByte l dC dI cB cI cJ H.size h0 b0 f2_4 len (va_up fb j (uB ((v.toUInt32 >>> ((nI 24).toUInt32 &&& Int32.toUInt32 31)).toInt32) % 256)) (j + 1) ((v.toUInt32 >>> ((nI 16).toUInt32 &&& Int32.toUInt32 31)).toInt32) hG1 (by omega)) (cwV 2 hts gX2_putWord_X2_putByte rfl rfl rfl (by decide +kernel) ⟨Nat.le_of_ble_eq_true rfl, Nat.le_of_ble_eq_true rfl⟩) ⟨wBlind, va_recv hK hPc (ci := 2) (q0 := 0) rfl rfl, wGo hK hPc hDc hN⟩ rfl rfl hl.1 rfl (lv_room (Nat.le_of_ble_eq_true rfl)) dX2_putWord_17 ⟨show 0 ≤ 0 by decide, show 0 ≤ 0 by decide⟩) hS (fun q _ h => hFc q h) hFc (fun u t H1 locs ht hvm w_7 hB hz1 hk1 hS => ?_)
  obtain ⟨f2_8, rfl⟩ : ∃ z, z = u := ⟨_, rfl⟩
  obtain ⟨hP1, hD1⟩ := hB
  rw [ht] at hP1
  try dsimp only at w_7
  obtain ⟨hP, hD⟩ := va_join (wr := []) (w1 := [(h0, .inr (2, [.ref b0, .int (nI len)])), (b0, .inl (cB, 3000, .inl f2_8))]) hP hD [0, 1] [] rfl rfl (by decide) (by decide) hk1 hFc hP1 hD1
  clear hPc hDc hFc hP1 hD1 hz1 hk1 hvm
  generalize H1 = H at hP hS ⊢
  have hP : va_P (dC, dI) vwCl [(h0, .inr (2, [.ref b0, .int (nI len)])), (b0, .inl (cB, 3000, .inl f2_8))] H := hP
  have hD : va_D A [(h0, .inr (2, [.ref b0, .int (nI len)])), (b0, .inl (cB, 3000, .inl f2_8))] := hD
  have hG2 := w_7
  refine lv_aload_n hx hb dX2_putWord_20 rfl (lv_at hl 0 rfl) ?_
  refine lv_iload_n hx hb dX2_putWord_21 rfl (lv_at hl 1 rfl) ?_
  refine lv_iconst (v := nI 2) hx hb dX2_putWord_22 (by decide) ?_
  refine wx_iadd hx hb dX2_putWord_23 ?_
  refine lv_iload_n hx hb dX2_putWord_24 rfl (lv_at hl 2 rfl) ?_
  refine lv_bipush (v := nI 8) hx hb dX2_putWord_25 (by decide) ?_
  refine lv_iushr hx hb dX2_putWord_27 rfl ?_
  have hPc := hP.sub (ws' := [(h0, .inr (2, [.ref b0, .int (nI len)])), (b0, .inl (cB, 3000, .inl f2_8))]) [0, 1] rfl
  have hDc := hD.sub (ws' := [(h0, .inr (2, [.ref b0, .int (nI len)])), (b0, .inl (cB, 3000, .inl f2_8))]) [0, 1] (by decide) rfl
  have hFc := va_free (wc := [(h0, .inr (2, [.ref b0, .int (nI len)])), (b0, .inl (cB, 3000, .inl f2_8))]) hD hS hA [0, 1] rfl
  refine va_callv (va_runV (As := [.int (nI (j + 2)), .int ((v.toUInt32 >>> ((nI 8).toUInt32 &&& Int32.toUInt32 31)).toInt32)]) (rest := []) ⟨hx, hb, hml, hown, hts⟩ (c_X2_putByte l dC dI cB cI cJ H.size h0 b0 f2_8 len (va_up (va_up fb j (uB ((v.toUInt32 >>> ((nI 24).toUInt32 &&& Int32.toUInt32 31)).toInt32) % 256)) (j + 1) (uB ((v.toUInt32 >>> ((nI 16).toUInt32 &&& Int32.toUInt32 31)).toInt32) % 256)) (j + 2) ((v.toUInt32 >>> ((nI 8).toUInt32 &&& Int32.toUInt32 31)).toInt32) hG2 (by omega)) (cwV 2 hts gX2_putWord_X2_putByte rfl rfl rfl (by decide +kernel) ⟨Nat.le_of_ble_eq_true rfl, Nat.le_of_ble_eq_true rfl⟩) ⟨wBlind, va_recv hK hPc (ci := 2) (q0 := 0) rfl rfl, wGo hK hPc hDc hN⟩ rfl rfl hl.1 rfl (lv_room (Nat.le_of_ble_eq_true rfl)) dX2_putWord_28 ⟨show 0 ≤ 0 by decide, show 0 ≤ 0 by decide⟩) hS (fun q _ h => hFc q h) hFc (fun u t H1 locs ht hvm w_11 hB hz1 hk1 hS => ?_)
  obtain ⟨f2_12, rfl⟩ : ∃ z, z = u := ⟨_, rfl⟩
  obtain ⟨hP1, hD1⟩ := hB
  rw [ht] at hP1
  try dsimp only at w_11
  obtain ⟨hP, hD⟩ := va_join (wr := []) (w1 := [(h0, .inr (2, [.ref b0, .int (nI len)])), (b0, .inl (cB, 3000, .inl f2_12))]) hP hD [0, 1] [] rfl rfl (by decide) (by decide) hk1 hFc hP1 hD1
  clear hPc hDc hFc hP1 hD1 hz1 hk1 hvm
  generalize H1 = H at hP hS ⊢
  have hP : va_P (dC, dI) vwCl [(h0, .inr (2, [.ref b0, .int (nI len)])), (b0, .inl (cB, 3000, .inl f2_12))] H := hP
  have hD : va_D A [(h0, .inr (2, [.ref b0, .int (nI len)])), (b0, .inl (cB, 3000, .inl f2_12))] := hD
  have hG3 := w_11
  refine lv_aload_n hx hb dX2_putWord_31 rfl (lv_at hl 0 rfl) ?_
  refine lv_iload_n hx hb dX2_putWord_32 rfl (lv_at hl 1 rfl) ?_
  refine lv_iconst (v := nI 3) hx hb dX2_putWord_33 (by decide) ?_
  refine wx_iadd hx hb dX2_putWord_34 ?_
  refine lv_iload_n hx hb dX2_putWord_35 rfl (lv_at hl 2 rfl) ?_
  have hPc := hP.sub (ws' := [(h0, .inr (2, [.ref b0, .int (nI len)])), (b0, .inl (cB, 3000, .inl f2_12))]) [0, 1] rfl
  have hDc := hD.sub (ws' := [(h0, .inr (2, [.ref b0, .int (nI len)])), (b0, .inl (cB, 3000, .inl f2_12))]) [0, 1] (by decide) rfl
  have hFc := va_free (wc := [(h0, .inr (2, [.ref b0, .int (nI len)])), (b0, .inl (cB, 3000, .inl f2_12))]) hD hS hA [0, 1] rfl
  refine va_callv (va_runV (As := [.int (nI (j + 3)), .int v]) (rest := []) ⟨hx, hb, hml, hown, hts⟩ (c_X2_putByte l dC dI cB cI cJ H.size h0 b0 f2_12 len (va_up (va_up (va_up fb j (uB ((v.toUInt32 >>> ((nI 24).toUInt32 &&& Int32.toUInt32 31)).toInt32) % 256)) (j + 1) (uB ((v.toUInt32 >>> ((nI 16).toUInt32 &&& Int32.toUInt32 31)).toInt32) % 256)) (j + 2) (uB ((v.toUInt32 >>> ((nI 8).toUInt32 &&& Int32.toUInt32 31)).toInt32) % 256)) (j + 3) v hG3 (by omega)) (cwV 2 hts gX2_putWord_X2_putByte rfl rfl rfl (by decide +kernel) ⟨Nat.le_of_ble_eq_true rfl, Nat.le_of_ble_eq_true rfl⟩) ⟨wBlind, va_recv hK hPc (ci := 2) (q0 := 0) rfl rfl, wGo hK hPc hDc hN⟩ rfl rfl hl.1 rfl (lv_room (Nat.le_of_ble_eq_true rfl)) dX2_putWord_36 ⟨show 0 ≤ 0 by decide, show 0 ≤ 0 by decide⟩) hS (fun q _ h => hFc q h) hFc (fun u t H1 locs ht hvm w_15 hB hz1 hk1 hS => ?_)
  obtain ⟨f2_16, rfl⟩ : ∃ z, z = u := ⟨_, rfl⟩
  obtain ⟨hP1, hD1⟩ := hB
  rw [ht] at hP1
  try dsimp only at w_15
  obtain ⟨hP, hD⟩ := va_join (wr := []) (w1 := [(h0, .inr (2, [.ref b0, .int (nI len)])), (b0, .inl (cB, 3000, .inl f2_16))]) hP hD [0, 1] [] rfl rfl (by decide) (by decide) hk1 hFc hP1 hD1
  clear hPc hDc hFc hP1 hD1 hz1 hk1 hvm
  generalize H1 = H at hP hS ⊢
  have hP : va_P (dC, dI) vwCl [(h0, .inr (2, [.ref b0, .int (nI len)])), (b0, .inl (cB, 3000, .inl f2_16))] H := hP
  have hD : va_D A [(h0, .inr (2, [.ref b0, .int (nI len)])), (b0, .inl (cB, 3000, .inl f2_16))] := hD
  have hG4 := w_15
  have hP9 := hP.sub (ws' := [(h0, .inr (2, [.ref b0, .int (nI len)])), (b0, .inl (cB, 3000, .inl f2_16))]) [0, 1] rfl
  have hD9 := hD.sub (ws' := [(h0, .inr (2, [.ref b0, .int (nI len)])), (b0, .inl (cB, 3000, .inl f2_16))]) [0, 1] (by decide) rfl
  exact W.vret hx hb hr (fun t ht hW => ⟨⟨(f2_16), rfl, (by rw [← up4_eq]; exact hG4), by rw [ht]; exact hP9, hD9⟩, hS.F ht⟩) hS.2.2 dX2_putWord_39
set_option maxHeartbeats 4000000 in
set_option maxRecDepth 100000 in
theorem c_X2_byteAt (l : Launch) (dC : Nat → ClassId) (dI : Nat → Nat → Nat) (cB cI cJ : ClassId) (sz : Nat) (h0 : Nat) (b0 : Nat) (f : Nat → Int32) (len : Nat) (fb : Nat → Nat) (j : Nat) (hF : fOk f len fb) (hj : j < 1000000) : Met l yX2_byteAt wsX2_byteAt ({ frames := 0, cells := 0, slots := 0, locals := 0 }) (va_Pc [.ref h0, .int (nI j)] (wPre dC dI cB cI cJ sz [(h0, .inr (2, [.ref b0, .int (nI len)])), (b0, .inl (cB, 3000, .inl f))])) (va_Qi (fun (r : Int32) (u : Unit) => r = nI (fb j)) (fun (u : Unit) => wPost dC dI (va_A [(h0, .inr (2, [.ref b0, .int (nI len)])), (b0, .inl (cB, 3000, .inl f))] sz) [(h0, .inr (2, [.ref b0, .int (nI len)])), (b0, .inl (cB, 3000, .inl f))]) (va_A [(h0, .inr (2, [.ref b0, .int (nI len)])), (b0, .inl (cB, 3000, .inl f))] sz)) 0 0 (va_A [(h0, .inr (2, [.ref b0, .int (nI len)])), (b0, .inl (cB, 3000, .inl f))] sz) := by
  refine Met.ofW (cc := cX2_byteAt) (maxL := 2) (ret := (some .int)) (by decide) rfl ?_
  intro p e s m args below meth c s₁ B hml hv
  obtain ⟨rfl, hsz, hP, hK, hD0, hN⟩ := hv
  have hx := B.exec
  have hb := B.bytes
  have hr := B.returns
  have hts := atoms_spec (ws := wsX2_byteAt) B.pre
  have hown : s.vm.findClass RX2 = some m.cls := findClass_of_methodNamed B.named
  have hlocks := B.notSynchronized
  subst hsz
  have hD := hD0.self (sz := s.heap.size)
  generalize hAe : va_A [(h0, .inr (2, [.ref b0, .int (nI len)])), (b0, .inl (cB, 3000, .inl f))] s.heap.size = A at hD ⊢
  have hA : ∀ q : Nat, s.heap.size ≤ q → A q := fun q h => by rw [← hAe]; exact Or.inr h
  have hS : va_S A s.heap s.heap [] := va_S.rf
  have hP : va_P (dC, dI) vwCl [(h0, .inr (2, [.ref b0, .int (nI len)])), (b0, .inl (cB, 3000, .inl f))] s.heap := hP
  have hl := lv_entry ([.ref h0, .int (nI j)]) (n := 2) (Nat.le_of_ble_eq_true rfl)
  rw [lg_entry_eq]
  generalize (lg_sl ([.ref h0, .int (nI j)]) ++ List.replicate (2 - (lg_sl ([.ref h0, .int (nI j)])).length) Slot.unset).toArray = ls at hl ⊢
  have hl : lv_has ls 2 [(0, .ref h0), (1, .int (nI j))] := hl
  have hF1 := hF.1
  have hF2 := hF.2.1
  refine lv_iload_n hx hb dX2_byteAt_0 rfl (lv_at hl 1 rfl) ?_
  refine wx_if_lt (tgt := 32) hx hb dX2_byteAt_1 (by decide) (by omega) ?_
  refine lv_iload_n hx hb dX2_byteAt_4 rfl (lv_at hl 1 rfl) ?_
  refine lv_aload_n hx hb dX2_byteAt_5 rfl (lv_at hl 0 rfl) ?_
  refine va_get (D := (dC, dI)) (ci := 2) (v := .int (nI len)) (C := RX2) (T := TX2) (N := 2) hx hb hts (by decide +kernel) hown hK hP 0 rfl rfl 1 (by decide) (hts (.fieldLink RX2 15 "GlulxHeads$StoryFile" "length" "I") (by decide +kernel)) (fun _ h9 => h9) rfl dX2_byteAt_6 ?_
  refine wx_icmp_ge (tgt := 32) hx hb dX2_byteAt_9 (by decide) (by omega) (by omega) (fun c_2 => ?_) (fun c_2 => ?_)
  · skip
    refine lv_iconst (v := nI 0) hx hb dX2_byteAt_32 (by decide) ?_
    have hP9 := hP.sub (ws' := [(h0, .inr (2, [.ref b0, .int (nI len)])), (b0, .inl (cB, 3000, .inl f))]) [0, 1] rfl
    have hD9 := hD.sub (ws' := [(h0, .inr (2, [.ref b0, .int (nI len)])), (b0, .inl (cB, 3000, .inl f))]) [0, 1] (by decide) rfl
    exact W.iret (v := nI 0) hx hb hr (fun t ht hW => ⟨⟨(nI 0), (), rfl, by rw [hF.2.2.1 j (by omega)], by rw [ht]; exact hP9, hD9⟩, hS.F ht⟩) hS.2.2 dX2_byteAt_33
  · skip
    refine lv_iload_n hx hb dX2_byteAt_12 rfl (lv_at hl 1 rfl) ?_
    refine lv_sipush (v := nI 3000) hx hb dX2_byteAt_13 (by decide) ?_
    refine wx_icmp_ge (tgt := 32) hx hb dX2_byteAt_16 (by decide) (by omega) (by omega) (fun c_3 => ?_) (fun c_3 => ?_)
    · skip
      refine lv_iconst (v := nI 0) hx hb dX2_byteAt_32 (by decide) ?_
      have hP9 := hP.sub (ws' := [(h0, .inr (2, [.ref b0, .int (nI len)])), (b0, .inl (cB, 3000, .inl f))]) [0, 1] rfl
      have hD9 := hD.sub (ws' := [(h0, .inr (2, [.ref b0, .int (nI len)])), (b0, .inl (cB, 3000, .inl f))]) [0, 1] (by decide) rfl
      exact W.iret (v := nI 0) hx hb hr (fun t ht hW => ⟨⟨(nI 0), (), rfl, by rw [hF.2.2.1 j (by omega)], by rw [ht]; exact hP9, hD9⟩, hS.F ht⟩) hS.2.2 dX2_byteAt_33
    · skip
      refine lv_aload_n hx hb dX2_byteAt_19 rfl (lv_at hl 0 rfl) ?_
      refine va_get (D := (dC, dI)) (ci := 2) (v := .ref b0) (C := RX2) (T := TX2) (N := 2) hx hb hts (by decide +kernel) hown hK hP 0 rfl rfl 0 (by decide) (hts (.fieldLink RX2 9 "GlulxHeads$StoryFile" "bytes" "[B") (by decide +kernel)) (fun _ h9 => h9) rfl dX2_byteAt_20 ?_
      refine lv_iload_n hx hb dX2_byteAt_23 rfl (lv_at hl 1 rfl) ?_
      refine wx_bald hx hb hK hP 1 0 rfl rfl (by omega) (by decide) dX2_byteAt_24 ?_
      refine lv_sipush (v := nI 255) hx hb dX2_byteAt_25 (by decide) ?_
      refine lv_iand hx hb dX2_byteAt_28 ?_
      refine lv_goto (tgt := 33) hx hb dX2_byteAt_29 (by decide) ?_
      have hP9 := hP.sub (ws' := [(h0, .inr (2, [.ref b0, .int (nI len)])), (b0, .inl (cB, 3000, .inl f))]) [0, 1] rfl
      have hD9 := hD.sub (ws' := [(h0, .inr (2, [.ref b0, .int (nI len)])), (b0, .inl (cB, 3000, .inl f))]) [0, 1] (by decide) rfl
      exact W.iret (v := (f j) &&& (nI 255)) hx hb hr (fun t ht hW => ⟨⟨((f j) &&& (nI 255)), (), rfl, by rw [hF.2.2.2 j (by omega)]; exact sb_and (hF.2.1 j), by rw [ht]; exact hP9, hD9⟩, hS.F ht⟩) hS.2.2 dX2_byteAt_33
set_option maxHeartbeats 4000000 in
set_option maxRecDepth 100000 in
theorem c_X2_wordAt (l : Launch) (dC : Nat → ClassId) (dI : Nat → Nat → Nat) (cB cI cJ : ClassId) (sz : Nat) (h0 : Nat) (b0 : Nat) (f : Nat → Int32) (len : Nat) (fb : Nat → Nat) (j : Nat) (hF : fOk f len fb) (hj : j < 999000) : Met l yX2_wordAt wsX2_wordAt ({ frames := 1, cells := 0, slots := 0, locals := 21 }) (va_Pc [.ref h0, .int (nI j)] (wPre dC dI cB cI cJ sz [(h0, .inr (2, [.ref b0, .int (nI len)])), (b0, .inl (cB, 3000, .inl f))])) (va_Ql (fun (r : Int64) (u : Unit) => r = lN (fw fb j)) (fun (u : Unit) => wPost dC dI (va_A [(h0, .inr (2, [.ref b0, .int (nI len)])), (b0, .inl (cB, 3000, .inl f))] sz) [(h0, .inr (2, [.ref b0, .int (nI len)])), (b0, .inl (cB, 3000, .inl f))]) (va_A [(h0, .inr (2, [.ref b0, .int (nI len)])), (b0, .inl (cB, 3000, .inl f))] sz)) 0 0 (va_A [(h0, .inr (2, [.ref b0, .int (nI len)])), (b0, .inl (cB, 3000, .inl f))] sz) := by
  refine Met.ofW (cc := cX2_wordAt) (maxL := 3) (ret := (some .long)) (by decide) rfl ?_
  intro p e s m args below meth c s₁ B hml hv
  obtain ⟨rfl, hsz, hP, hK, hD0, hN⟩ := hv
  have hx := B.exec
  have hb := B.bytes
  have hr := B.returns
  have hts := atoms_spec (ws := wsX2_wordAt) B.pre
  have hown : s.vm.findClass RX2 = some m.cls := findClass_of_methodNamed B.named
  have hlocks := B.notSynchronized
  subst hsz
  have hD := hD0.self (sz := s.heap.size)
  generalize hAe : va_A [(h0, .inr (2, [.ref b0, .int (nI len)])), (b0, .inl (cB, 3000, .inl f))] s.heap.size = A at hD ⊢
  have hA : ∀ q : Nat, s.heap.size ≤ q → A q := fun q h => by rw [← hAe]; exact Or.inr h
  have hS : va_S A s.heap s.heap [] := va_S.rf
  have hP : va_P (dC, dI) vwCl [(h0, .inr (2, [.ref b0, .int (nI len)])), (b0, .inl (cB, 3000, .inl f))] s.heap := hP
  have hl := lv_entry ([.ref h0, .int (nI j)]) (n := 3) (Nat.le_of_ble_eq_true rfl)
  rw [lg_entry_eq]
  generalize (lg_sl ([.ref h0, .int (nI j)]) ++ List.replicate (3 - (lg_sl ([.ref h0, .int (nI j)])).length) Slot.unset).toArray = ls at hl ⊢
  have hl : lv_has ls 3 [(0, .ref h0), (1, .int (nI j))] := hl
  have hF1 := hF.1
  have hF2 := hF.2.1
  refine lv_aload_n hx hb dX2_wordAt_0 rfl (lv_at hl 0 rfl) ?_
  refine lv_iload_n hx hb dX2_wordAt_1 rfl (lv_at hl 1 rfl) ?_
  have hPc := hP.sub (ws' := [(h0, .inr (2, [.ref b0, .int (nI len)])), (b0, .inl (cB, 3000, .inl f))]) [0, 1] rfl
  have hDc := hD.sub (ws' := [(h0, .inr (2, [.ref b0, .int (nI len)])), (b0, .inl (cB, 3000, .inl f))]) [0, 1] (by decide) rfl
  have hFc := va_free (wc := [(h0, .inr (2, [.ref b0, .int (nI len)])), (b0, .inl (cB, 3000, .inl f))]) hD hS hA [0, 1] rfl
  refine va_calli (va_runV (As := [.int (nI j)]) (rest := []) ⟨hx, hb, hml, hown, hts⟩ (c_X2_byteAt l dC dI cB cI cJ s.heap.size h0 b0 f len fb j hF (by omega)) (cwV 1 hts gX2_wordAt_X2_byteAt rfl rfl rfl (by decide +kernel) ⟨Nat.le_of_ble_eq_true rfl, Nat.le_of_ble_eq_true rfl⟩) ⟨wBlind, va_recv hK hPc (ci := 2) (q0 := 0) rfl rfl, wGo hK hPc hDc hN⟩ rfl rfl hl.1 rfl (lv_room (Nat.le_of_ble_eq_true rfl)) dX2_wordAt_2 ⟨show 0 ≤ 0 by decide, show 0 ≤ 0 by decide⟩) hS (fun q _ h => hFc q h) hFc (fun r_2 u t H1 locs ht hvm w_3 hB hz1 hk1 hS => ?_)
  clear u
  obtain ⟨hP1, hD1⟩ := hB
  rw [ht] at hP1
  try dsimp only at w_3
  obtain ⟨hP, hD⟩ := va_join (wr := []) (w1 := [(h0, .inr (2, [.ref b0, .int (nI len)])), (b0, .inl (cB, 3000, .inl f))]) hP hD [0, 1] [] rfl rfl (by decide) (by decide) hk1 hFc hP1 hD1
  clear hPc hDc hFc hP1 hD1 hz1 hk1 hvm
  generalize H1 = H at hP hS ⊢
  have hP : va_P (dC, dI) vwCl [(h0, .inr (2, [.ref b0, .int (nI len)])), (b0, .inl (cB, 3000, .inl f))] H := hP
  have hD : va_D A [(h0, .inr (2, [.ref b0, .int (nI len)])), (b0, .inl (cB, 3000, .inl f))] := hD
  subst w_3
  refine lv_bipush (v := nI 24) hx hb dX2_wordAt_5 (by decide) ?_
  refine lv_ishl hx hb dX2_wordAt_7 ?_
  refine lv_aload_n hx hb dX2_wordAt_8 rfl (lv_at hl 0 rfl) ?_
  refine lv_iload_n hx hb dX2_wordAt_9 rfl (lv_at hl 1 rfl) ?_
  refine lv_iconst (v := nI 1) hx hb dX2_wordAt_10 (by decide) ?_
  refine wx_iadd hx hb dX2_wordAt_11 ?_
  have hPc := hP.sub (ws' := [(h0, .inr (2, [.ref b0, .int (nI len)])), (b0, .inl (cB, 3000, .inl f))]) [0, 1] rfl
  have hDc := hD.sub (ws' := [(h0, .inr (2, [.ref b0, .int (nI len)])), (b0, .inl (cB, 3000, .inl f))]) [0, 1] (by decide) rfl
  have hFc := va_free (wc := [(h0, .inr (2, [.ref b0, .int (nI len)])), (b0, .inl (cB, 3000, .inl f))]) hD hS hA [0, 1] rfl
  refine va_calli (va_runV (As := [.int (nI (j + 1))]) (rest := [.int ((nI (fb (j))) <<< ((nI 24) &&& 31))]) ⟨hx, hb, hml, hown, hts⟩ (c_X2_byteAt l dC dI cB cI cJ H.size h0 b0 f len fb (j + 1) hF (by omega)) (cwV 1 hts gX2_wordAt_X2_byteAt rfl rfl rfl (by decide +kernel) ⟨Nat.le_of_ble_eq_true rfl, Nat.le_of_ble_eq_true rfl⟩) ⟨wBlind, va_recv hK hPc (ci := 2) (q0 := 0) rfl rfl, wGo hK hPc hDc hN⟩ rfl rfl hl.1 rfl (lv_room (Nat.le_of_ble_eq_true rfl)) dX2_wordAt_12 ⟨show 0 ≤ 0 by decide, show 0 ≤ 0 by decide⟩) hS (fun q _ h => hFc q h) hFc (fun r_5 u t H1 locs ht hvm w_6 hB hz1 hk1 hS => ?_)
  clear u
  obtain ⟨hP1, hD1⟩ := hB
  rw [ht] at hP1
  try dsimp only at w_6
  obtain ⟨hP, hD⟩ := va_join (wr := []) (w1 := [(h0, .inr (2, [.ref b0, .int (nI len)])), (b0, .inl (cB, 3000, .inl f))]) hP hD [0, 1] [] rfl rfl (by decide) (by decide) hk1 hFc hP1 hD1
  clear hPc hDc hFc hP1 hD1 hz1 hk1 hvm
  generalize H1 = H at hP hS ⊢
  have hP : va_P (dC, dI) vwCl [(h0, .inr (2, [.ref b0, .int (nI len)])), (b0, .inl (cB, 3000, .inl f))] H := hP
  have hD : va_D A [(h0, .inr (2, [.ref b0, .int (nI len)])), (b0, .inl (cB, 3000, .inl f))] := hD
  subst w_6
  refine lv_bipush (v := nI 16) hx hb dX2_wordAt_15 (by decide) ?_
  refine lv_ishl hx hb dX2_wordAt_17 ?_
  refine lv_ior hx hb dX2_wordAt_18 ?_
  refine lv_aload_n hx hb dX2_wordAt_19 rfl (lv_at hl 0 rfl) ?_
  refine lv_iload_n hx hb dX2_wordAt_20 rfl (lv_at hl 1 rfl) ?_
  refine lv_iconst (v := nI 2) hx hb dX2_wordAt_21 (by decide) ?_
  refine wx_iadd hx hb dX2_wordAt_22 ?_
  have hPc := hP.sub (ws' := [(h0, .inr (2, [.ref b0, .int (nI len)])), (b0, .inl (cB, 3000, .inl f))]) [0, 1] rfl
  have hDc := hD.sub (ws' := [(h0, .inr (2, [.ref b0, .int (nI len)])), (b0, .inl (cB, 3000, .inl f))]) [0, 1] (by decide) rfl
  have hFc := va_free (wc := [(h0, .inr (2, [.ref b0, .int (nI len)])), (b0, .inl (cB, 3000, .inl f))]) hD hS hA [0, 1] rfl
  refine va_calli (va_runV (As := [.int (nI (j + 2))]) (rest := [.int (((nI (fb (j))) <<< ((nI 24) &&& 31)) ||| ((nI (fb (j + 1))) <<< ((nI 16) &&& 31)))]) ⟨hx, hb, hml, hown, hts⟩ (c_X2_byteAt l dC dI cB cI cJ H.size h0 b0 f len fb (j + 2) hF (by omega)) (cwV 1 hts gX2_wordAt_X2_byteAt rfl rfl rfl (by decide +kernel) ⟨Nat.le_of_ble_eq_true rfl, Nat.le_of_ble_eq_true rfl⟩) ⟨wBlind, va_recv hK hPc (ci := 2) (q0 := 0) rfl rfl, wGo hK hPc hDc hN⟩ rfl rfl hl.1 rfl (lv_room (Nat.le_of_ble_eq_true rfl)) dX2_wordAt_23 ⟨show 0 ≤ 0 by decide, show 0 ≤ 0 by decide⟩) hS (fun q _ h => hFc q h) hFc (fun r_8 u t H1 locs ht hvm w_9 hB hz1 hk1 hS => ?_)
  clear u
  obtain ⟨hP1, hD1⟩ := hB
  rw [ht] at hP1
  try dsimp only at w_9
  obtain ⟨hP, hD⟩ := va_join (wr := []) (w1 := [(h0, .inr (2, [.ref b0, .int (nI len)])), (b0, .inl (cB, 3000, .inl f))]) hP hD [0, 1] [] rfl rfl (by decide) (by decide) hk1 hFc hP1 hD1
  clear hPc hDc hFc hP1 hD1 hz1 hk1 hvm
  generalize H1 = H at hP hS ⊢
  have hP : va_P (dC, dI) vwCl [(h0, .inr (2, [.ref b0, .int (nI len)])), (b0, .inl (cB, 3000, .inl f))] H := hP
  have hD : va_D A [(h0, .inr (2, [.ref b0, .int (nI len)])), (b0, .inl (cB, 3000, .inl f))] := hD
  subst w_9
  refine lv_bipush (v := nI 8) hx hb dX2_wordAt_26 (by decide) ?_
  refine lv_ishl hx hb dX2_wordAt_28 ?_
  refine lv_ior hx hb dX2_wordAt_29 ?_
  refine lv_aload_n hx hb dX2_wordAt_30 rfl (lv_at hl 0 rfl) ?_
  refine lv_iload_n hx hb dX2_wordAt_31 rfl (lv_at hl 1 rfl) ?_
  refine lv_iconst (v := nI 3) hx hb dX2_wordAt_32 (by decide) ?_
  refine wx_iadd hx hb dX2_wordAt_33 ?_
  have hPc := hP.sub (ws' := [(h0, .inr (2, [.ref b0, .int (nI len)])), (b0, .inl (cB, 3000, .inl f))]) [0, 1] rfl
  have hDc := hD.sub (ws' := [(h0, .inr (2, [.ref b0, .int (nI len)])), (b0, .inl (cB, 3000, .inl f))]) [0, 1] (by decide) rfl
  have hFc := va_free (wc := [(h0, .inr (2, [.ref b0, .int (nI len)])), (b0, .inl (cB, 3000, .inl f))]) hD hS hA [0, 1] rfl
  refine va_calli (va_runV (As := [.int (nI (j + 3))]) (rest := [.int ((((nI (fb (j))) <<< ((nI 24) &&& 31)) ||| ((nI (fb (j + 1))) <<< ((nI 16) &&& 31))) ||| ((nI (fb (j + 2))) <<< ((nI 8) &&& 31)))]) ⟨hx, hb, hml, hown, hts⟩ (c_X2_byteAt l dC dI cB cI cJ H.size h0 b0 f len fb (j + 3) hF (by omega)) (cwV 1 hts gX2_wordAt_X2_byteAt rfl rfl rfl (by decide +kernel) ⟨Nat.le_of_ble_eq_true rfl, Nat.le_of_ble_eq_true rfl⟩) ⟨wBlind, va_recv hK hPc (ci := 2) (q0 := 0) rfl rfl, wGo hK hPc hDc hN⟩ rfl rfl hl.1 rfl (lv_room (Nat.le_of_ble_eq_true rfl)) dX2_wordAt_34 ⟨show 0 ≤ 0 by decide, show 0 ≤ 0 by decide⟩) hS (fun q _ h => hFc q h) hFc (fun r_11 u t H1 locs ht hvm w_12 hB hz1 hk1 hS => ?_)
  clear u
  obtain ⟨hP1, hD1⟩ := hB
  rw [ht] at hP1
  try dsimp only at w_12
  obtain ⟨hP, hD⟩ := va_join (wr := []) (w1 := [(h0, .inr (2, [.ref b0, .int (nI len)])), (b0, .inl (cB, 3000, .inl f))]) hP hD [0, 1] [] rfl rfl (by decide) (by decide) hk1 hFc hP1 hD1
  clear hPc hDc hFc hP1 hD1 hz1 hk1 hvm
  generalize H1 = H at hP hS ⊢
  have hP : va_P (dC, dI) vwCl [(h0, .inr (2, [.ref b0, .int (nI len)])), (b0, .inl (cB, 3000, .inl f))] H := hP
  have hD : va_D A [(h0, .inr (2, [.ref b0, .int (nI len)])), (b0, .inl (cB, 3000, .inl f))] := hD
  subst w_12
  refine lv_ior hx hb dX2_wordAt_37 ?_
  refine lv_istore_n (lv' := [(2, .int (((((nI (fb (j))) <<< ((nI 24) &&& 31)) ||| ((nI (fb (j + 1))) <<< ((nI 16) &&& 31))) ||| ((nI (fb (j + 2))) <<< ((nI 8) &&& 31))) ||| (nI (fb (j + 3))))), (0, .ref h0), (1, .int (nI j))]) hx hb dX2_wordAt_38 rfl hl (by decide) rfl (fun ls hl => ?_)
  refine lv_iload_n hx hb dX2_wordAt_39 rfl (lv_at hl 0 rfl) ?_
  refine lv_i2l (v := (((((nI (fb (j))) <<< ((nI 24) &&& 31)) ||| ((nI (fb (j + 1))) <<< ((nI 16) &&& 31))) ||| ((nI (fb (j + 2))) <<< ((nI 8) &&& 31))) ||| (nI (fb (j + 3)))).toInt64) hx hb dX2_wordAt_40 rfl ?_
  refine lv_ldc2 (v := lN 4294967295) hx hb hown (hts (.constantLong RX2 31 (4294967295)) (by decide +kernel)) dX2_wordAt_41 ?_
  refine lv_land hx hb dX2_wordAt_44 ?_
  have hP9 := hP.sub (ws' := [(h0, .inr (2, [.ref b0, .int (nI len)])), (b0, .inl (cB, 3000, .inl f))]) [0, 1] rfl
  have hD9 := hD.sub (ws' := [(h0, .inr (2, [.ref b0, .int (nI len)])), (b0, .inl (cB, 3000, .inl f))]) [0, 1] (by decide) rfl
  exact W.lret (v := ((((((nI (fb (j))) <<< ((nI 24) &&& 31)) ||| ((nI (fb (j + 1))) <<< ((nI 16) &&& 31))) ||| ((nI (fb (j + 2))) <<< ((nI 8) &&& 31))) ||| (nI (fb (j + 3)))).toInt64) &&& (lN 4294967295)) hx hb hr (fun t ht hW => ⟨⟨(((((((nI (fb (j))) <<< ((nI 24) &&& 31)) ||| ((nI (fb (j + 1))) <<< ((nI 16) &&& 31))) ||| ((nI (fb (j + 2))) <<< ((nI 8) &&& 31))) ||| (nI (fb (j + 3)))).toInt64) &&& (lN 4294967295)), (), rfl, (fw_word (hF2 _) (hF2 _) (hF2 _) (hF2 _)), by rw [ht]; exact hP9, hD9⟩, hS.F ht⟩) hS.2.2 dX2_wordAt_45
