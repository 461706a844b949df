/-- one of the two kept states -/
def kOk (dk : Nat → Int32) (b mz : Nat) (mem : Nat → Nat) (cn : Nat) (pl ll : Nat → Nat) (hp : Nat) : Prop := (∀ j, j < mz → dk (8232 * b + j) = nI (mem j)) ∧ dk (8232 * b + 8192) = nI mz ∧ dk (8232 * b + 8193) = nI hp ∧ dk (8232 * b + 8194) = nI cn ∧ (∀ i, i < cn → dk (8232 * b + 8195 + 2 * i) = nI (pl i)) ∧ (∀ i, i < cn → dk (8232 * b + 8196 + 2 * i) = nI (ll i))
def sInv (K KB : Nat → Int32) (a9 mz : Nat) (mem : Nat → Nat) (hp cn : Nat) (pl ll : Nat → Nat) (i : Nat) : Prop := (∀ j, j < mz → K (a9 + j) = nI (mem j)) ∧ K (a9 + 8192) = nI mz ∧ K (a9 + 8193) = nI hp ∧ K (a9 + 8194) = nI cn ∧ (∀ q, q < i → K (a9 + 8195 + 2 * q) = nI (pl q)) ∧ (∀ q, q < i → K (a9 + 8196 + 2 * q) = nI (ll q)) ∧ (∀ j, j < a9 → K j = KB j)
theorem kshift {K3 dk : Nat → Int32} {i : Nat} (h : ∀ j, j < 16464 → K3 j = if j < i then dk (8232 + j) else dk j) (hi : i < 8232) : ∀ j, j < 16464 → upd K3 i (K3 (8232 + i)) j = if j < i + 1 then dk (8232 + j) else dk j := by
  intro j hj
  by_cases z : j = i
  · subst z; rw [pk_us, h (8232 + j) (by omega), if_neg (by omega), if_pos (by omega)]
  · rw [pk_un z, h j hj]
    by_cases y : j < i
    · rw [if_pos y, if_pos (by omega)]
    · rw [if_neg y, if_neg (by omega)]
theorem kB_s {K : Nat → Int32} {a9 i : Nat} {mem : Nat → Nat} (h : ∀ j, j < i → K (a9 + j) = nI (mem j)) : ∀ j, j < i + 1 → upd K (a9 + i) (nI (mem i)) (a9 + j) = nI (mem j) := by
  intro j hj
  by_cases z : j = i
  · subst z; rw [pk_us]
  · rw [pk_un (by omega)]; exact h j (by omega)
theorem kB_l {K KB : Nat → Int32} {a9 i : Nat} {x : Int32} (h : ∀ j, j < a9 → K j = KB j) : ∀ j, j < a9 → upd K (a9 + i) x j = KB j := by
  intro j hj
  rw [pk_un (by omega)]; exact h j hj
theorem sInv_0 {K KB : Nat → Int32} {a9 mz : Nat} {mem : Nat → Nat} {hp cn : Nat} {pl ll : Nat → Nat} (hmz : mz ≤ 8192) (h : ∀ j, j < mz → K (a9 + j) = nI (mem j)) (hl : ∀ j, j < a9 → K j = KB j) : sInv (upd (upd (upd K (a9 + 8192) (nI mz)) (a9 + 8193) (nI hp)) (a9 + 8194) (nI cn)) KB a9 mz mem hp cn pl ll 0 := by
  refine ⟨fun j hj => ?_, ?_, ?_, ?_, fun q hq => absurd hq (Nat.not_lt_zero _), fun q hq => absurd hq (Nat.not_lt_zero _), fun j hj => ?_⟩
  · rw [pk_un (by omega), pk_un (by omega), pk_un (by omega)]; exact h j hj
  · rw [pk_un (by omega), pk_un (by omega), pk_us]
  · rw [pk_un (by omega), pk_us]
  · rw [pk_us]
  · rw [pk_un (by omega), pk_un (by omega), pk_un (by omega)]; exact hl j hj
theorem sInv_s {K KB : Nat → Int32} {a9 mz : Nat} {mem : Nat → Nat} {hp cn : Nat} {pl ll : Nat → Nat} {i : Nat} (hmz : mz ≤ 8192) (h : sInv K KB a9 mz mem hp cn pl ll i) : sInv (upd (upd K (a9 + 8195 + 2 * i) (nI (pl i))) (a9 + 8196 + 2 * i) (nI (ll i))) KB a9 mz mem hp cn pl ll (i + 1) := by
  obtain ⟨h1, h2, h3, h4, h5, h6, h7⟩ := h
  refine ⟨fun j hj => ?_, ?_, ?_, ?_, fun q hq => ?_, fun q hq => ?_, fun j hj => ?_⟩
  · rw [pk_un (by omega), pk_un (by omega)]; exact h1 j hj
  · rw [pk_un (by omega), pk_un (by omega)]; exact h2
  · rw [pk_un (by omega), pk_un (by omega)]; exact h3
  · rw [pk_un (by omega), pk_un (by omega)]; exact h4
  · by_cases z : q = i
    · subst z; rw [pk_un (by omega), pk_us]
    · rw [pk_un (by omega), pk_un (by omega)]; exact h5 q (by omega)
  · by_cases z : q = i
    · subst z; rw [pk_us]
    · rw [pk_un (by omega), pk_un (by omega)]; exact h6 q (by omega)
  · rw [pk_un (by omega), pk_un (by omega)]; exact h7 j hj
theorem kOk_of {K KB : Nat → Int32} {b mz : Nat} {mem : Nat → Nat} {hp cn : Nat} {pl ll : Nat → Nat} (h : sInv K KB (8232 * b) mz mem hp cn pl ll cn) : kOk K b mz mem cn pl ll hp := ⟨h.1, h.2.1, h.2.2.1, h.2.2.2.1, h.2.2.2.2.1, h.2.2.2.2.2.1⟩
theorem bOk_s {P3 : Nat → Int32} {k : Nat} {pl : Nat → Nat} (h : bOk P3 k pl) : bOk (upd P3 k (nI (pl k))) (k + 1) pl := by
  intro j hj
  by_cases z : j = k
  · subst z; rw [pk_us]
  · rw [pk_un z]; exact h j (by omega)
set_option maxHeartbeats 1000000 in
set_option maxRecDepth 100000 in
theorem c_X4_save_M (l : Launch) (dC : Nat → ClassId) (dI : Nat → Nat → Nat) (cB cI cJ : ClassId) (sz : Nat) (oD : Nat) (th : Nat) (dF : Nat) (len : Nat) (dH : Nat) (sr : Nat) (dL : Nat) (en : Nat) (ram : Nat) (mz : Nat) (dM : Nat) (hp : Nat) (cn : Nat) (dP : Nat) (dS : Nat) (fk : Nat) (fp : Int32) (ka : Nat) (kn : Nat) (sv : Nat) (dK : Nat) (dm : Nat → Int32) (dp : Nat → Int32) (ds : Nat → Int32) (dk : Nat → Int32) (mem : Nat → Nat) (pl : Nat → Nat) (ll : Nat → Nat) (hmz : mz ≤ 8192) (hm : gOk dm mz mem) (hmem : ∀ j, mem j < 256) (hcn : cn ≤ 16) (hPl : bOk dp cn pl) (hLl : bOk ds cn ll) (hsv : sv ≤ 2) : Met l yX4_save wsX4_save ({ frames := 0, cells := 0, slots := 0, locals := 0 }) (va_Pc [.ref oD] (wPre dC dI cB cI cJ sz [(oD, .inr (4, [.int (nI th), .ref dF, .int (nI len), .int (nI 1), .ref dH, .int (nI sr), .ref dL, .int (nI en), .int (nI ram), .int (nI mz), .ref dM, .int (nI hp), .int (nI cn), .ref dP, .ref dS, .int (nI fk), .int fp, .int (nI ka), .int (nI kn), .int (nI sv), .ref dK])), (dM, .inl (cI, 8192, .inl dm)), (dP, .inl (cI, 16, .inl dp)), (dS, .inl (cI, 16, .inl ds)), (dK, .inl (cI, 16464, .inl dk))])) (va_Qi (fun (r : Int32) (u : (Nat → Int32) × Nat) => r = nI u.2 ∧ u.2 = min 2 (sv + 1) ∧ kOk u.1 (u.2 - 1) mz mem cn pl ll hp ∧ (sv = 1 → ∀ j, j < 8232 → u.1 j = dk j) ∧ (sv = 2 → ∀ j, j < 8232 → u.1 j = dk (8232 + j))) (fun (u : (Nat → Int32) × Nat) => wPost dC dI (va_A [(oD, .inr (4, [.int (nI th), .ref dF, .int (nI len), .int (nI 1), .ref dH, .int (nI sr), .ref dL, .int (nI en), .int (nI ram), .int (nI mz), .ref dM, .int (nI hp), .int (nI cn), .ref dP, .ref dS, .int (nI fk), .int fp, .int (nI ka), .int (nI kn), .int (nI sv), .ref dK])), (dM, .inl (cI, 8192, .inl dm)), (dP, .inl (cI, 16, .inl dp)), (dS, .inl (cI, 16, .inl ds)), (dK, .inl (cI, 16464, .inl dk))] sz) [(oD, .inr (4, [.int (nI 0), .ref dF, .int (nI len), .int (nI 1), .ref dH, .int (nI sr), .ref dL, .int (nI en), .int (nI ram), .int (nI mz), .ref dM, .int (nI hp), .int (nI cn), .ref dP, .ref dS, .int (nI fk), .int fp, .int (nI ka), .int (nI kn), .int (nI u.2), .ref dK])), (dM, .inl (cI, 8192, .inl dm)), (dP, .inl (cI, 16, .inl dp)), (dS, .inl (cI, 16, .inl ds)), (dK, .inl (cI, 16464, .inl u.1))]) (va_A [(oD, .inr (4, [.int (nI th), .ref dF, .int (nI len), .int (nI 1), .ref dH, .int (nI sr), .ref dL, .int (nI en), .int (nI ram), .int (nI mz), .ref dM, .int (nI hp), .int (nI cn), .ref dP, .ref dS, .int (nI fk), .int fp, .int (nI ka), .int (nI kn), .int (nI sv), .ref dK])), (dM, .inl (cI, 8192, .inl dm)), (dP, .inl (cI, 16, .inl dp)), (dS, .inl (cI, 16, .inl ds)), (dK, .inl (cI, 16464, .inl dk))] sz)) 0 0 (va_A [(oD, .inr (4, [.int (nI th), .ref dF, .int (nI len), .int (nI 1), .ref dH, .int (nI sr), .ref dL, .int (nI en), .int (nI ram), .int (nI mz), .ref dM, .int (nI hp), .int (nI cn), .ref dP, .ref dS, .int (nI fk), .int fp, .int (nI ka), .int (nI kn), .int (nI sv), .ref dK])), (dM, .inl (cI, 8192, .inl dm)), (dP, .inl (cI, 16, .inl dp)), (dS, .inl (cI, 16, .inl ds)), (dK, .inl (cI, 16464, .inl dk))] sz) := by
  refine Met.ofW (cc := cX4_save) (maxL := 3) (ret := (some .int)) (by decide) rfl ?_
  intro p e s m args below meth c s₁ B hml hv
  obtain ⟨rfl, hsz, hP, hK, hD0, hN⟩ := hv
  have hx := B.exec
  have hb := B.bytes
  have hr := B.returns
  have hts := atoms_spec (ws := wsX4_save) B.pre
  have hown : s.vm.findClass RX4 = some m.cls := findClass_of_methodNamed B.named
  have hlocks := B.notSynchronized
  subst hsz
  have hD := hD0.self (sz := s.heap.size)
  generalize hAe : va_A [(oD, .inr (4, [.int (nI th), .ref dF, .int (nI len), .int (nI 1), .ref dH, .int (nI sr), .ref dL, .int (nI en), .int (nI ram), .int (nI mz), .ref dM, .int (nI hp), .int (nI cn), .ref dP, .ref dS, .int (nI fk), .int fp, .int (nI ka), .int (nI kn), .int (nI sv), .ref dK])), (dM, .inl (cI, 8192, .inl dm)), (dP, .inl (cI, 16, .inl dp)), (dS, .inl (cI, 16, .inl ds)), (dK, .inl (cI, 16464, .inl dk))] s.heap.size = A at hD ⊢
  have hA : ∀ q : Nat, s.heap.size ≤ q → A q := fun q h => by rw [← hAe]; exact Or.inr h
  have hS : va_S A s.heap s.heap [] := va_S.rf
  have hP : va_P (dC, dI) vwCl [(oD, .inr (4, [.int (nI th), .ref dF, .int (nI len), .int (nI 1), .ref dH, .int (nI sr), .ref dL, .int (nI en), .int (nI ram), .int (nI mz), .ref dM, .int (nI hp), .int (nI cn), .ref dP, .ref dS, .int (nI fk), .int fp, .int (nI ka), .int (nI kn), .int (nI sv), .ref dK])), (dM, .inl (cI, 8192, .inl dm)), (dP, .inl (cI, 16, .inl dp)), (dS, .inl (cI, 16, .inl ds)), (dK, .inl (cI, 16464, .inl dk))] s.heap := hP
  have hl := lv_entry ([.ref oD]) (n := 3) (Nat.le_of_ble_eq_true rfl)
  rw [lg_entry_eq]
  generalize (lg_sl ([.ref oD]) ++ List.replicate (3 - (lg_sl ([.ref oD])).length) Slot.unset).toArray = ls at hl ⊢
  have hl : lv_has ls 3 [(0, .ref oD)] := hl
  refine lv_aload_n hx hb dX4_save_0 rfl (lv_at hl 0 rfl) ?_
  refine lv_iconst (v := nI 0) hx hb dX4_save_1 (by decide) ?_
  refine va_put (D := (dC, dI)) (ci := 4) (v := .int (nI 0)) (ty := .int) (C := RX4) (T := TX4) (N := 21) hx hb hts (by decide +kernel) tyX4 tyX4_ok nmX4 hown hK hP hD hS 0 rfl rfl 0 (by decide) (hts (.fieldLink RX4 32 "GlulxHeadsModel" "thrown" "I") (by decide +kernel)) (fun _ h9 => h9) rfl (by decide +kernel) rfl rfl (Nat.le_of_ble_eq_true rfl) dX4_save_2 (fun H locs hP hD hS => ?_)
  have hP : va_P (dC, dI) vwCl [(oD, .inr (4, [.int (nI 0), .ref dF, .int (nI len), .int (nI 1), .ref dH, .int (nI sr), .ref dL, .int (nI en), .int (nI ram), .int (nI mz), .ref dM, .int (nI hp), .int (nI cn), .ref dP, .ref dS, .int (nI fk), .int fp, .int (nI ka), .int (nI kn), .int (nI sv), .ref dK])), (dM, .inl (cI, 8192, .inl dm)), (dP, .inl (cI, 16, .inl dp)), (dS, .inl (cI, 16, .inl ds)), (dK, .inl (cI, 16464, .inl dk))] H := hP
  have hD : va_D A [(oD, .inr (4, [.int (nI 0), .ref dF, .int (nI len), .int (nI 1), .ref dH, .int (nI sr), .ref dL, .int (nI en), .int (nI ram), .int (nI mz), .ref dM, .int (nI hp), .int (nI cn), .ref dP, .ref dS, .int (nI fk), .int fp, .int (nI ka), .int (nI kn), .int (nI sv), .ref dK])), (dM, .inl (cI, 8192, .inl dm)), (dP, .inl (cI, 16, .inl dp)), (dS, .inl (cI, 16, .inl ds)), (dK, .inl (cI, 16464, .inl dk))] := hD
  refine lv_aload_n hx hb dX4_save_5 rfl (lv_at hl 0 rfl) ?_
  refine va_get (D := (dC, dI)) (ci := 4) (v := .int (nI 1)) (C := RX4) (T := TX4) (N := 21) hx hb hts (by decide +kernel) hown hK hP 0 rfl rfl 3 (by decide) (hts (.fieldLink RX4 76 "GlulxHeadsModel" "has" "Z") (by decide +kernel)) (fun _ h9 => h9) rfl dX4_save_6 ?_
  refine wx_if_ne (tgt := 15) hx hb dX4_save_9 (by decide) (by omega) (fun c_1 => ?_) (fun c_1 => absurd c_1 (by decide))
  refine lv_aload_n hx hb dX4_save_15 rfl (lv_at hl 0 rfl) ?_
  refine va_get (D := (dC, dI)) (ci := 4) (v := .int (nI sv)) (C := RX4) (T := TX4) (N := 21) hx hb hts (by decide +kernel) hown hK hP 0 rfl rfl 19 (by decide) (hts (.fieldLink RX4 110 "GlulxHeadsModel" "states" "I") (by decide +kernel)) (fun _ h9 => h9) rfl dX4_save_16 ?_
  refine lv_iconst (v := nI 2) hx hb dX4_save_19 (by decide) ?_
  refine wx_icmp_ne (tgt := 59) hx hb dX4_save_20 (by decide) (by omega) (by omega) (fun c_2 => ?_) (fun c_2 => ?_)
  · skip
    refine lv_sipush (v := nI 8232) hx hb dX4_save_59 (by decide) ?_
    refine lv_aload_n hx hb dX4_save_62 rfl (lv_at hl 0 rfl) ?_
    refine va_get (D := (dC, dI)) (ci := 4) (v := .int (nI sv)) (C := RX4) (T := TX4) (N := 21) hx hb hts (by decide +kernel) hown hK hP 0 rfl rfl 19 (by decide) (hts (.fieldLink RX4 110 "GlulxHeadsModel" "states" "I") (by decide +kernel)) (fun _ h9 => h9) rfl dX4_save_63 ?_
    refine wx_imul hx hb dX4_save_66 ?_
    refine lv_istore_n (lv' := [(1, .int (nI (8232 * sv))), (0, .ref oD)]) hx hb dX4_save_67 rfl hl (by decide) rfl (fun ls hl => ?_)
    refine lv_iconst (v := nI 0) hx hb dX4_save_68 (by decide) ?_
    refine lv_istore_n (lv' := [(2, .int (nI 0)), (1, .int (nI (8232 * sv))), (0, .ref oD)]) hx hb dX4_save_69 rfl hl (by decide) rfl (fun ls hl => ?_)
    refine wx_loop (σ := Nat × (Nat → Int32)) (fun xq9 => mz - xq9.1) (fun xq9 H locs ls => (xq9.1 ≤ mz) ∧ (∀ j, j < xq9.1 → xq9.2 (8232 * sv + j) = nI (mem j)) ∧ (∀ j, j < 8232 * sv → xq9.2 j = dk j) ∧ va_P (dC, dI) vwCl [(oD, .inr (4, [.int (nI 0), .ref dF, .int (nI len), .int (nI 1), .ref dH, .int (nI sr), .ref dL, .int (nI en), .int (nI ram), .int (nI mz), .ref dM, .int (nI hp), .int (nI cn), .ref dP, .ref dS, .int (nI fk), .int fp, .int (nI ka), .int (nI kn), .int (nI sv), .ref dK])), (dM, .inl (cI, 8192, .inl dm)), (dP, .inl (cI, 16, .inl dp)), (dS, .inl (cI, 16, .inl ds)), (dK, .inl (cI, 16464, .inl xq9.2))] H ∧ va_D A [(oD, .inr (4, [.int (nI 0), .ref dF, .int (nI len), .int (nI 1), .ref dH, .int (nI sr), .ref dL, .int (nI en), .int (nI ram), .int (nI mz), .ref dM, .int (nI hp), .int (nI cn), .ref dP, .ref dS, .int (nI fk), .int fp, .int (nI ka), .int (nI kn), .int (nI sv), .ref dK])), (dM, .inl (cI, 8192, .inl dm)), (dP, .inl (cI, 16, .inl dp)), (dS, .inl (cI, 16, .inl ds)), (dK, .inl (cI, 16464, .inl xq9.2))] ∧ va_S A s.heap H locs ∧ lv_has ls 3 [(0, .ref oD), (1, .int (nI (8232 * sv))), (2, .int (nI xq9.1))]) ?_ (0, dk) _ _ _ ⟨by omega, fun j hj => absurd hj (Nat.not_lt_zero _), fun j hj => rfl, hP.sub [0, 1, 2, 3, 4] rfl, hD.sub [0, 1, 2, 3, 4] (by decide) rfl, hS, lv_sub hl [2, 1, 0] rfl⟩
    rintro ⟨x1, K4⟩ H locs ls ⟨hx1, hB, hlo, hP, hD, hS, hl⟩ ih
    have hx1 : x1 ≤ mz := hx1
    have hB : ∀ j, j < x1 → K4 (8232 * sv + j) = nI (mem j) := hB
    have hlo : ∀ j, j < 8232 * sv → K4 j = dk j := hlo
    have hP : va_P (dC, dI) vwCl [(oD, .inr (4, [.int (nI 0), .ref dF, .int (nI len), .int (nI 1), .ref dH, .int (nI sr), .ref dL, .int (nI en), .int (nI ram), .int (nI mz), .ref dM, .int (nI hp), .int (nI cn), .ref dP, .ref dS, .int (nI fk), .int fp, .int (nI ka), .int (nI kn), .int (nI sv), .ref dK])), (dM, .inl (cI, 8192, .inl dm)), (dP, .inl (cI, 16, .inl dp)), (dS, .inl (cI, 16, .inl ds)), (dK, .inl (cI, 16464, .inl K4))] H := hP
    have hD : va_D A [(oD, .inr (4, [.int (nI 0), .ref dF, .int (nI len), .int (nI 1), .ref dH, .int (nI sr), .ref dL, .int (nI en), .int (nI ram), .int (nI mz), .ref dM, .int (nI hp), .int (nI cn), .ref dP, .ref dS, .int (nI fk), .int fp, .int (nI ka), .int (nI kn), .int (nI sv), .ref dK])), (dM, .inl (cI, 8192, .inl dm)), (dP, .inl (cI, 16, .inl dp)), (dS, .inl (cI, 16, .inl ds)), (dK, .inl (cI, 16464, .inl K4))] := hD
    have hl : lv_has ls 3 [(0, .ref oD), (1, .int (nI (8232 * sv))), (2, .int (nI x1))] := hl
    refine lv_iload_n hx hb dX4_save_70 rfl (lv_at hl 2 rfl) ?_
    refine lv_aload_n hx hb dX4_save_71 rfl (lv_at hl 0 rfl) ?_
    refine va_get (D := (dC, dI)) (ci := 4) (v := .int (nI mz)) (C := RX4) (T := TX4) (N := 21) hx hb hts (by decide +kernel) hown hK hP 0 rfl rfl 9 (by decide) (hts (.fieldLink RX4 89 "GlulxHeadsModel" "m" "I") (by decide +kernel)) (fun _ h9 => h9) rfl dX4_save_72 ?_
    refine wx_icmp_ge (tgt := 98) hx hb dX4_save_75 (by decide) (by omega) (by omega) (fun c_3 => ?_) (fun c_3 => ?_)
    · skip
      refine lv_aload_n hx hb dX4_save_98 rfl (lv_at hl 0 rfl) ?_
      refine va_get (D := (dC, dI)) (ci := 4) (v := .ref dK) (C := RX4) (T := TX4) (N := 21) hx hb hts (by decide +kernel) hown hK hP 0 rfl rfl 20 (by decide) (hts (.fieldLink RX4 29 "GlulxHeadsModel" "kept" "[I") (by decide +kernel)) (fun _ h9 => h9) rfl dX4_save_99 ?_
      refine lv_iload_n hx hb dX4_save_102 rfl (lv_at hl 1 rfl) ?_
      refine lv_sipush (v := nI 8192) hx hb dX4_save_103 (by decide) ?_
      refine wx_iadd hx hb dX4_save_106 ?_
      refine lv_aload_n hx hb dX4_save_107 rfl (lv_at hl 0 rfl) ?_
      refine va_get (D := (dC, dI)) (ci := 4) (v := .int (nI mz)) (C := RX4) (T := TX4) (N := 21) hx hb hts (by decide +kernel) hown hK hP 0 rfl rfl 9 (by decide) (hts (.fieldLink RX4 89 "GlulxHeadsModel" "m" "I") (by decide +kernel)) (fun _ h9 => h9) rfl dX4_save_108 ?_
      refine wx_iast hx hb hK hP hD hS 4 1 rfl rfl (by omega) (by decide) dX4_save_111 (fun H locs hP hD hS => ?_)
      have hP : va_P (dC, dI) vwCl [(oD, .inr (4, [.int (nI 0), .ref dF, .int (nI len), .int (nI 1), .ref dH, .int (nI sr), .ref dL, .int (nI en), .int (nI ram), .int (nI mz), .ref dM, .int (nI hp), .int (nI cn), .ref dP, .ref dS, .int (nI fk), .int fp, .int (nI ka), .int (nI kn), .int (nI sv), .ref dK])), (dM, .inl (cI, 8192, .inl dm)), (dP, .inl (cI, 16, .inl dp)), (dS, .inl (cI, 16, .inl ds)), (dK, .inl (cI, 16464, .inl (upd K4 ((8232 * sv) + 8192) (nI mz))))] H := hP
      have hD : va_D A [(oD, .inr (4, [.int (nI 0), .ref dF, .int (nI len), .int (nI 1), .ref dH, .int (nI sr), .ref dL, .int (nI en), .int (nI ram), .int (nI mz), .ref dM, .int (nI hp), .int (nI cn), .ref dP, .ref dS, .int (nI fk), .int fp, .int (nI ka), .int (nI kn), .int (nI sv), .ref dK])), (dM, .inl (cI, 8192, .inl dm)), (dP, .inl (cI, 16, .inl dp)), (dS, .inl (cI, 16, .inl ds)), (dK, .inl (cI, 16464, .inl (upd K4 ((8232 * sv) + 8192) (nI mz))))] := hD
      refine lv_aload_n hx hb dX4_save_112 rfl (lv_at hl 0 rfl) ?_
      refine va_get (D := (dC, dI)) (ci := 4) (v := .ref dK) (C := RX4) (T := TX4) (N := 21) hx hb hts (by decide +kernel) hown hK hP 0 rfl rfl 20 (by decide) (hts (.fieldLink RX4 29 "GlulxHeadsModel" "kept" "[I") (by decide +kernel)) (fun _ h9 => h9) rfl dX4_save_113 ?_
      refine lv_iload_n hx hb dX4_save_116 rfl (lv_at hl 1 rfl) ?_
      refine lv_sipush (v := nI 8193) hx hb dX4_save_117 (by decide) ?_
      refine wx_iadd hx hb dX4_save_120 ?_
      refine lv_aload_n hx hb dX4_save_121 rfl (lv_at hl 0 rfl) ?_
      refine va_get (D := (dC, dI)) (ci := 4) (v := .int (nI hp)) (C := RX4) (T := TX4) (N := 21) hx hb hts (by decide +kernel) hown hK hP 0 rfl rfl 11 (by decide) (hts (.fieldLink RX4 92 "GlulxHeadsModel" "heap" "I") (by decide +kernel)) (fun _ h9 => h9) rfl dX4_save_122 ?_
      refine wx_iast hx hb hK hP hD hS 4 1 rfl rfl (by omega) (by decide) dX4_save_125 (fun H locs hP hD hS => ?_)
      have hP : va_P (dC, dI) vwCl [(oD, .inr (4, [.int (nI 0), .ref dF, .int (nI len), .int (nI 1), .ref dH, .int (nI sr), .ref dL, .int (nI en), .int (nI ram), .int (nI mz), .ref dM, .int (nI hp), .int (nI cn), .ref dP, .ref dS, .int (nI fk), .int fp, .int (nI ka), .int (nI kn), .int (nI sv), .ref dK])), (dM, .inl (cI, 8192, .inl dm)), (dP, .inl (cI, 16, .inl dp)), (dS, .inl (cI, 16, .inl ds)), (dK, .inl (cI, 16464, .inl (upd (upd K4 ((8232 * sv) + 8192) (nI mz)) ((8232 * sv) + 8193) (nI hp))))] H := hP
      have hD : va_D A [(oD, .inr (4, [.int (nI 0), .ref dF, .int (nI len), .int (nI 1), .ref dH, .int (nI sr), .ref dL, .int (nI en), .int (nI ram), .int (nI mz), .ref dM, .int (nI hp), .int (nI cn), .ref dP, .ref dS, .int (nI fk), .int fp, .int (nI ka), .int (nI kn), .int (nI sv), .ref dK])), (dM, .inl (cI, 8192, .inl dm)), (dP, .inl (cI, 16, .inl dp)), (dS, .inl (cI, 16, .inl ds)), (dK, .inl (cI, 16464, .inl (upd (upd K4 ((8232 * sv) + 8192) (nI mz)) ((8232 * sv) + 8193) (nI hp))))] := hD
      refine lv_aload_n hx hb dX4_save_126 rfl (lv_at hl 0 rfl) ?_
      refine va_get (D := (dC, dI)) (ci := 4) (v := .ref dK) (C := RX4) (T := TX4) (N := 21) hx hb hts (by decide +kernel) hown hK hP 0 rfl rfl 20 (by decide) (hts (.fieldLink RX4 29 "GlulxHeadsModel" "kept" "[I") (by decide +kernel)) (fun _ h9 => h9) rfl dX4_save_127 ?_
      refine lv_iload_n hx hb dX4_save_130 rfl (lv_at hl 1 rfl) ?_
      refine lv_sipush (v := nI 8194) hx hb dX4_save_131 (by decide) ?_
      refine wx_iadd hx hb dX4_save_134 ?_
      refine lv_aload_n hx hb dX4_save_135 rfl (lv_at hl 0 rfl) ?_
      refine va_get (D := (dC, dI)) (ci := 4) (v := .int (nI cn)) (C := RX4) (T := TX4) (N := 21) hx hb hts (by decide +kernel) hown hK hP 0 rfl rfl 12 (by decide) (hts (.fieldLink RX4 95 "GlulxHeadsModel" "blocks" "I") (by decide +kernel)) (fun _ h9 => h9) rfl dX4_save_136 ?_
      refine wx_iast hx hb hK hP hD hS 4 1 rfl rfl (by omega) (by decide) dX4_save_139 (fun H locs hP hD hS => ?_)
      have hP : va_P (dC, dI) vwCl [(oD, .inr (4, [.int (nI 0), .ref dF, .int (nI len), .int (nI 1), .ref dH, .int (nI sr), .ref dL, .int (nI en), .int (nI ram), .int (nI mz), .ref dM, .int (nI hp), .int (nI cn), .ref dP, .ref dS, .int (nI fk), .int fp, .int (nI ka), .int (nI kn), .int (nI sv), .ref dK])), (dM, .inl (cI, 8192, .inl dm)), (dP, .inl (cI, 16, .inl dp)), (dS, .inl (cI, 16, .inl ds)), (dK, .inl (cI, 16464, .inl (upd (upd (upd K4 ((8232 * sv) + 8192) (nI mz)) ((8232 * sv) + 8193) (nI hp)) ((8232 * sv) + 8194) (nI cn))))] H := hP
      have hD : va_D A [(oD, .inr (4, [.int (nI 0), .ref dF, .int (nI len), .int (nI 1), .ref dH, .int (nI sr), .ref dL, .int (nI en), .int (nI ram), .int (nI mz), .ref dM, .int (nI hp), .int (nI cn), .ref dP, .ref dS, .int (nI fk), .int fp, .int (nI ka), .int (nI kn), .int (nI sv), .ref dK])), (dM, .inl (cI, 8192, .inl dm)), (dP, .inl (cI, 16, .inl dp)), (dS, .inl (cI, 16, .inl ds)), (dK, .inl (cI, 16464, .inl (upd (upd (upd K4 ((8232 * sv) + 8192) (nI mz)) ((8232 * sv) + 8193) (nI hp)) ((8232 * sv) + 8194) (nI cn))))] := hD
      refine lv_iconst (v := nI 0) hx hb dX4_save_140 (by decide) ?_
      refine lv_istore_n (lv' := [(2, .int (nI 0)), (0, .ref oD), (1, .int (nI (8232 * sv)))]) hx hb dX4_save_141 rfl hl (by decide) rfl (fun ls hl => ?_)
      refine wx_loop (σ := Nat × (Nat → Int32)) (fun xq9 => cn - xq9.1) (fun xq9 H locs ls => (xq9.1 ≤ cn) ∧ (sInv xq9.2 dk (8232 * sv) mz mem hp cn pl ll xq9.1) ∧ va_P (dC, dI) vwCl [(oD, .inr (4, [.int (nI 0), .ref dF, .int (nI len), .int (nI 1), .ref dH, .int (nI sr), .ref dL, .int (nI en), .int (nI ram), .int (nI mz), .ref dM, .int (nI hp), .int (nI cn), .ref dP, .ref dS, .int (nI fk), .int fp, .int (nI ka), .int (nI kn), .int (nI sv), .ref dK])), (dM, .inl (cI, 8192, .inl dm)), (dP, .inl (cI, 16, .inl dp)), (dS, .inl (cI, 16, .inl ds)), (dK, .inl (cI, 16464, .inl xq9.2))] H ∧ va_D A [(oD, .inr (4, [.int (nI 0), .ref dF, .int (nI len), .int (nI 1), .ref dH, .int (nI sr), .ref dL, .int (nI en), .int (nI ram), .int (nI mz), .ref dM, .int (nI hp), .int (nI cn), .ref dP, .ref dS, .int (nI fk), .int fp, .int (nI ka), .int (nI kn), .int (nI sv), .ref dK])), (dM, .inl (cI, 8192, .inl dm)), (dP, .inl (cI, 16, .inl dp)), (dS, .inl (cI, 16, .inl ds)), (dK, .inl (cI, 16464, .inl xq9.2))] ∧ va_S A s.heap H locs ∧ lv_has ls 3 [(0, .ref oD), (1, .int (nI (8232 * sv))), (2, .int (nI xq9.1))]) ?_ (0, (upd (upd (upd K4 ((8232 * sv) + 8192) (nI mz)) ((8232 * sv) + 8193) (nI hp)) ((8232 * sv) + 8194) (nI cn))) _ _ _ ⟨by omega, sInv_0 (by omega) (fun j hj => hB j (by omega)) hlo, hP.sub [0, 1, 2, 3, 4] rfl, hD.sub [0, 1, 2, 3, 4] (by decide) rfl, hS, lv_sub hl [1, 2, 0] rfl⟩
      rintro ⟨x2, K5⟩ H locs ls ⟨hx2, hC, hP, hD, hS, hl⟩ ih
      have hx2 : x2 ≤ cn := hx2
      have hC : sInv K5 dk (8232 * sv) mz mem hp cn pl ll x2 := hC
      have hP : va_P (dC, dI) vwCl [(oD, .inr (4, [.int (nI 0), .ref dF, .int (nI len), .int (nI 1), .ref dH, .int (nI sr), .ref dL, .int (nI en), .int (nI ram), .int (nI mz), .ref dM, .int (nI hp), .int (nI cn), .ref dP, .ref dS, .int (nI fk), .int fp, .int (nI ka), .int (nI kn), .int (nI sv), .ref dK])), (dM, .inl (cI, 8192, .inl dm)), (dP, .inl (cI, 16, .inl dp)), (dS, .inl (cI, 16, .inl ds)), (dK, .inl (cI, 16464, .inl K5))] H := hP
      have hD : va_D A [(oD, .inr (4, [.int (nI 0), .ref dF, .int (nI len), .int (nI 1), .ref dH, .int (nI sr), .ref dL, .int (nI en), .int (nI ram), .int (nI mz), .ref dM, .int (nI hp), .int (nI cn), .ref dP, .ref dS, .int (nI fk), .int fp, .int (nI ka), .int (nI kn), .int (nI sv), .ref dK])), (dM, .inl (cI, 8192, .inl dm)), (dP, .inl (cI, 16, .inl dp)), (dS, .inl (cI, 16, .inl ds)), (dK, .inl (cI, 16464, .inl K5))] := hD
      have hl : lv_has ls 3 [(0, .ref oD), (1, .int (nI (8232 * sv))), (2, .int (nI x2))] := hl
      refine lv_iload_n hx hb dX4_save_142 rfl (lv_at hl 2 rfl) ?_
      refine lv_aload_n hx hb dX4_save_143 rfl (lv_at hl 0 rfl) ?_
      refine va_get (D := (dC, dI)) (ci := 4) (v := .int (nI cn)) (C := RX4) (T := TX4) (N := 21) hx hb hts (by decide +kernel) hown hK hP 0 rfl rfl 12 (by decide) (hts (.fieldLink RX4 95 "GlulxHeadsModel" "blocks" "I") (by decide +kernel)) (fun _ h9 => h9) rfl dX4_save_144 ?_
      refine wx_icmp_ge (tgt := 196) hx hb dX4_save_147 (by decide) (by omega) (by omega) (fun c_4 => ?_) (fun c_4 => ?_)
      · skip
        refine lv_aload_n hx hb dX4_save_196 rfl (lv_at hl 0 rfl) ?_
        refine lv_dup hx hb dX4_save_197 rfl ?_
        refine va_get (D := (dC, dI)) (ci := 4) (v := .int (nI sv)) (C := RX4) (T := TX4) (N := 21) hx hb hts (by decide +kernel) hown hK hP 0 rfl rfl 19 (by decide) (hts (.fieldLink RX4 110 "GlulxHeadsModel" "states" "I") (by decide +kernel)) (fun _ h9 => h9) rfl dX4_save_198 ?_
        refine lv_iconst (v := nI 1) hx hb dX4_save_201 (by decide) ?_
        refine wx_iadd hx hb dX4_save_202 ?_
        refine va_put (D := (dC, dI)) (ci := 4) (v := .int (nI (sv + 1))) (ty := .int) (C := RX4) (T := TX4) (N := 21) hx hb hts (by decide +kernel) tyX4 tyX4_ok nmX4 hown hK hP hD hS 0 rfl rfl 19 (by decide) (hts (.fieldLink RX4 110 "GlulxHeadsModel" "states" "I") (by decide +kernel)) (fun _ h9 => h9) rfl (by decide +kernel) rfl rfl (Nat.le_of_ble_eq_true rfl) dX4_save_203 (fun H locs hP hD hS => ?_)
        have hP : va_P (dC, dI) vwCl [(oD, .inr (4, [.int (nI 0), .ref dF, .int (nI len), .int (nI 1), .ref dH, .int (nI sr), .ref dL, .int (nI en), .int (nI ram), .int (nI mz), .ref dM, .int (nI hp), .int (nI cn), .ref dP, .ref dS, .int (nI fk), .int fp, .int (nI ka), .int (nI kn), .int (nI (sv + 1)), .ref dK])), (dM, .inl (cI, 8192, .inl dm)), (dP, .inl (cI, 16, .inl dp)), (dS, .inl (cI, 16, .inl ds)), (dK, .inl (cI, 16464, .inl K5))] H := hP
        have hD : va_D A [(oD, .inr (4, [.int (nI 0), .ref dF, .int (nI len), .int (nI 1), .ref dH, .int (nI sr), .ref dL, .int (nI en), .int (nI ram), .int (nI mz), .ref dM, .int (nI hp), .int (nI cn), .ref dP, .ref dS, .int (nI fk), .int fp, .int (nI ka), .int (nI kn), .int (nI (sv + 1)), .ref dK])), (dM, .inl (cI, 8192, .inl dm)), (dP, .inl (cI, 16, .inl dp)), (dS, .inl (cI, 16, .inl ds)), (dK, .inl (cI, 16464, .inl K5))] := hD
        refine lv_aload_n hx hb dX4_save_206 rfl (lv_at hl 0 rfl) ?_
        refine va_get (D := (dC, dI)) (ci := 4) (v := .int (nI (sv + 1))) (C := RX4) (T := TX4) (N := 21) hx hb hts (by decide +kernel) hown hK hP 0 rfl rfl 19 (by decide) (hts (.fieldLink RX4 110 "GlulxHeadsModel" "states" "I") (by decide +kernel)) (fun _ h9 => h9) rfl dX4_save_207 ?_
        have hP9 := hP.sub (ws' := [(oD, .inr (4, [.int (nI 0), .ref dF, .int (nI len), .int (nI 1), .ref dH, .int (nI sr), .ref dL, .int (nI en), .int (nI ram), .int (nI mz), .ref dM, .int (nI hp), .int (nI cn), .ref dP, .ref dS, .int (nI fk), .int fp, .int (nI ka), .int (nI kn), .int (nI (sv + 1)), .ref dK])), (dM, .inl (cI, 8192, .inl dm)), (dP, .inl (cI, 16, .inl dp)), (dS, .inl (cI, 16, .inl ds)), (dK, .inl (cI, 16464, .inl K5))]) [0, 1, 2, 3, 4] rfl
        have hD9 := hD.sub (ws' := [(oD, .inr (4, [.int (nI 0), .ref dF, .int (nI len), .int (nI 1), .ref dH, .int (nI sr), .ref dL, .int (nI en), .int (nI ram), .int (nI mz), .ref dM, .int (nI hp), .int (nI cn), .ref dP, .ref dS, .int (nI fk), .int fp, .int (nI ka), .int (nI kn), .int (nI (sv + 1)), .ref dK])), (dM, .inl (cI, 8192, .inl dm)), (dP, .inl (cI, 16, .inl dp)), (dS, .inl (cI, 16, .inl ds)), (dK, .inl (cI, 16464, .inl K5))]) [0, 1, 2, 3, 4] (by decide) rfl
        exact W.iret (v := nI (sv + 1)) hx hb hr (fun t ht hW => ⟨⟨(nI (sv + 1)), (K5, (sv + 1)), rfl, ⟨rfl, by dsimp only; omega, (by dsimp only; rw [show sv + 1 - 1 = sv by omega]; exact kOk_of (by rw [show cn = x2 by omega] at hC ⊢; exact hC)), fun h j hj => hC.2.2.2.2.2.2 j (by omega), fun h => absurd h (by omega)⟩, by rw [ht]; exact hP9, hD9⟩, hS.F ht⟩) hS.2.2 dX4_save_210
      · skip
        refine lv_aload_n hx hb dX4_save_150 rfl (lv_at hl 0 rfl) ?_
        refine va_get (D := (dC, dI)) (ci := 4) (v := .ref dK) (C := RX4) (T := TX4) (N := 21) hx hb hts (by decide +kernel) hown hK hP 0 rfl rfl 20 (by decide) (hts (.fieldLink RX4 29 "GlulxHeadsModel" "kept" "[I") (by decide +kernel)) (fun _ h9 => h9) rfl dX4_save_151 ?_
        refine lv_iload_n hx hb dX4_save_154 rfl (lv_at hl 1 rfl) ?_
        refine lv_sipush (v := nI 8195) hx hb dX4_save_155 (by decide) ?_
        refine wx_iadd hx hb dX4_save_158 ?_
        refine lv_iconst (v := nI 2) hx hb dX4_save_159 (by decide) ?_
        refine lv_iload_n hx hb dX4_save_160 rfl (lv_at hl 2 rfl) ?_
        refine wx_imul hx hb dX4_save_161 ?_
        refine wx_iadd hx hb dX4_save_162 ?_
        refine lv_aload_n hx hb dX4_save_163 rfl (lv_at hl 0 rfl) ?_
        refine va_get (D := (dC, dI)) (ci := 4) (v := .ref dP) (C := RX4) (T := TX4) (N := 21) hx hb hts (by decide +kernel) hown hK hP 0 rfl rfl 13 (by decide) (hts (.fieldLink RX4 23 "GlulxHeadsModel" "blockAt" "[I") (by decide +kernel)) (fun _ h9 => h9) rfl dX4_save_164 ?_
        refine lv_iload_n hx hb dX4_save_167 rfl (lv_at hl 2 rfl) ?_
        refine wx_iald hx hb hK hP 2 1 rfl rfl (by omega) (by decide) dX4_save_168 ?_
        refine wx_top (hPl x2 (by omega)) ?_
        refine wx_iast hx hb hK hP hD hS 4 1 rfl rfl (by omega) (by decide) dX4_save_169 (fun H locs hP hD hS => ?_)
        have hP : va_P (dC, dI) vwCl [(oD, .inr (4, [.int (nI 0), .ref dF, .int (nI len), .int (nI 1), .ref dH, .int (nI sr), .ref dL, .int (nI en), .int (nI ram), .int (nI mz), .ref dM, .int (nI hp), .int (nI cn), .ref dP, .ref dS, .int (nI fk), .int fp, .int (nI ka), .int (nI kn), .int (nI sv), .ref dK])), (dM, .inl (cI, 8192, .inl dm)), (dP, .inl (cI, 16, .inl dp)), (dS, .inl (cI, 16, .inl ds)), (dK, .inl (cI, 16464, .inl (upd K5 (((8232 * sv) + 8195) + (2 * x2)) (nI (pl x2)))))] H := hP
        have hD : va_D A [(oD, .inr (4, [.int (nI 0), .ref dF, .int (nI len), .int (nI 1), .ref dH, .int (nI sr), .ref dL, .int (nI en), .int (nI ram), .int (nI mz), .ref dM, .int (nI hp), .int (nI cn), .ref dP, .ref dS, .int (nI fk), .int fp, .int (nI ka), .int (nI kn), .int (nI sv), .ref dK])), (dM, .inl (cI, 8192, .inl dm)), (dP, .inl (cI, 16, .inl dp)), (dS, .inl (cI, 16, .inl ds)), (dK, .inl (cI, 16464, .inl (upd K5 (((8232 * sv) + 8195) + (2 * x2)) (nI (pl x2)))))] := hD
        refine lv_aload_n hx hb dX4_save_170 rfl (lv_at hl 0 rfl) ?_
        refine va_get (D := (dC, dI)) (ci := 4) (v := .ref dK) (C := RX4) (T := TX4) (N := 21) hx hb hts (by decide +kernel) hown hK hP 0 rfl rfl 20 (by decide) (hts (.fieldLink RX4 29 "GlulxHeadsModel" "kept" "[I") (by decide +kernel)) (fun _ h9 => h9) rfl dX4_save_171 ?_
        refine lv_iload_n hx hb dX4_save_174 rfl (lv_at hl 1 rfl) ?_
        refine lv_sipush (v := nI 8196) hx hb dX4_save_175 (by decide) ?_
        refine wx_iadd hx hb dX4_save_178 ?_
        refine lv_iconst (v := nI 2) hx hb dX4_save_179 (by decide) ?_
        refine lv_iload_n hx hb dX4_save_180 rfl (lv_at hl 2 rfl) ?_
        refine wx_imul hx hb dX4_save_181 ?_
        refine wx_iadd hx hb dX4_save_182 ?_
        refine lv_aload_n hx hb dX4_save_183 rfl (lv_at hl 0 rfl) ?_
        refine va_get (D := (dC, dI)) (ci := 4) (v := .ref dS) (C := RX4) (T := TX4) (N := 21) hx hb hts (by decide +kernel) hown hK hP 0 rfl rfl 14 (by decide) (hts (.fieldLink RX4 26 "GlulxHeadsModel" "blockSize" "[I") (by decide +kernel)) (fun _ h9 => h9) rfl dX4_save_184 ?_
        refine lv_iload_n hx hb dX4_save_187 rfl (lv_at hl 2 rfl) ?_
        refine wx_iald hx hb hK hP 3 1 rfl rfl (by omega) (by decide) dX4_save_188 ?_
        refine wx_top (hLl x2 (by omega)) ?_
        refine wx_iast hx hb hK hP hD hS 4 1 rfl rfl (by omega) (by decide) dX4_save_189 (fun H locs hP hD hS => ?_)
        have hP : va_P (dC, dI) vwCl [(oD, .inr (4, [.int (nI 0), .ref dF, .int (nI len), .int (nI 1), .ref dH, .int (nI sr), .ref dL, .int (nI en), .int (nI ram), .int (nI mz), .ref dM, .int (nI hp), .int (nI cn), .ref dP, .ref dS, .int (nI fk), .int fp, .int (nI ka), .int (nI kn), .int (nI sv), .ref dK])), (dM, .inl (cI, 8192, .inl dm)), (dP, .inl (cI, 16, .inl dp)), (dS, .inl (cI, 16, .inl ds)), (dK, .inl (cI, 16464, .inl (upd (upd K5 (((8232 * sv) + 8195) + (2 * x2)) (nI (pl x2))) (((8232 * sv) + 8196) + (2 * x2)) (nI (ll x2)))))] H := hP
        have hD : va_D A [(oD, .inr (4, [.int (nI 0), .ref dF, .int (nI len), .int (nI 1), .ref dH, .int (nI sr), .ref dL, .int (nI en), .int (nI ram), .int (nI mz), .ref dM, .int (nI hp), .int (nI cn), .ref dP, .ref dS, .int (nI fk), .int fp, .int (nI ka), .int (nI kn), .int (nI sv), .ref dK])), (dM, .inl (cI, 8192, .inl dm)), (dP, .inl (cI, 16, .inl dp)), (dS, .inl (cI, 16, .inl ds)), (dK, .inl (cI, 16464, .inl (upd (upd K5 (((8232 * sv) + 8195) + (2 * x2)) (nI (pl x2))) (((8232 * sv) + 8196) + (2 * x2)) (nI (ll x2)))))] := hD
        refine lv_iinc (v := nI (x2 + 1)) (lv' := [(2, .int (nI (x2 + 1))), (0, .ref oD), (1, .int (nI (8232 * sv)))]) hx hb dX4_save_190 hl (k := 2) rfl (by rw [show Int32.ofInt 1 = nI 1 by decide]; exact nI_add _ _) (by decide) rfl (fun ls hl => ?_)
        refine lv_goto (tgt := 142) hx hb dX4_save_193 (by decide) ?_
        exact ih ((x2 + 1), (upd (upd K5 (((8232 * sv) + 8195) + (2 * x2)) (nI (pl x2))) (((8232 * sv) + 8196) + (2 * x2)) (nI (ll x2)))) _ _ _ (by omega) ⟨by omega, sInv_s hmz hC, hP.sub [0, 1, 2, 3, 4] rfl, hD.sub [0, 1, 2, 3, 4] (by decide) rfl, hS, lv_sub hl [1, 2, 0] rfl⟩
    · skip
      refine lv_aload_n hx hb dX4_save_78 rfl (lv_at hl 0 rfl) ?_
      refine va_get (D := (dC, dI)) (ci := 4) (v := .ref dK) (C := RX4) (T := TX4) (N := 21) hx hb hts (by decide +kernel) hown hK hP 0 rfl rfl 20 (by decide) (hts (.fieldLink RX4 29 "GlulxHeadsModel" "kept" "[I") (by decide +kernel)) (fun _ h9 => h9) rfl dX4_save_79 ?_
      refine lv_iload_n hx hb dX4_save_82 rfl (lv_at hl 1 rfl) ?_
      refine lv_iload_n hx hb dX4_save_83 rfl (lv_at hl 2 rfl) ?_
      refine wx_iadd hx hb dX4_save_84 ?_
      refine lv_aload_n hx hb dX4_save_85 rfl (lv_at hl 0 rfl) ?_
      refine va_get (D := (dC, dI)) (ci := 4) (v := .ref dM) (C := RX4) (T := TX4) (N := 21) hx hb hts (by decide +kernel) hown hK hP 0 rfl rfl 10 (by decide) (hts (.fieldLink RX4 20 "GlulxHeadsModel" "memory" "[I") (by decide +kernel)) (fun _ h9 => h9) rfl dX4_save_86 ?_
      refine lv_iload_n hx hb dX4_save_89 rfl (lv_at hl 2 rfl) ?_
      refine wx_iald hx hb hK hP 1 1 rfl rfl (by omega) (by decide) dX4_save_90 ?_
      refine wx_top (hm x1 (by omega)) ?_
      refine wx_iast hx hb hK hP hD hS 4 1 rfl rfl (by omega) (by decide) dX4_save_91 (fun H locs hP hD hS => ?_)
      have hP : va_P (dC, dI) vwCl [(oD, .inr (4, [.int (nI 0), .ref dF, .int (nI len), .int (nI 1), .ref dH, .int (nI sr), .ref dL, .int (nI en), .int (nI ram), .int (nI mz), .ref dM, .int (nI hp), .int (nI cn), .ref dP, .ref dS, .int (nI fk), .int fp, .int (nI ka), .int (nI kn), .int (nI sv), .ref dK])), (dM, .inl (cI, 8192, .inl dm)), (dP, .inl (cI, 16, .inl dp)), (dS, .inl (cI, 16, .inl ds)), (dK, .inl (cI, 16464, .inl (upd K4 ((8232 * sv) + x1) (nI (mem x1)))))] H := hP
      have hD : va_D A [(oD, .inr (4, [.int (nI 0), .ref dF, .int (nI len), .int (nI 1), .ref dH, .int (nI sr), .ref dL, .int (nI en), .int (nI ram), .int (nI mz), .ref dM, .int (nI hp), .int (nI cn), .ref dP, .ref dS, .int (nI fk), .int fp, .int (nI ka), .int (nI kn), .int (nI sv), .ref dK])), (dM, .inl (cI, 8192, .inl dm)), (dP, .inl (cI, 16, .inl dp)), (dS, .inl (cI, 16, .inl ds)), (dK, .inl (cI, 16464, .inl (upd K4 ((8232 * sv) + x1) (nI (mem x1)))))] := hD
      refine lv_iinc (v := nI (x1 + 1)) (lv' := [(2, .int (nI (x1 + 1))), (0, .ref oD), (1, .int (nI (8232 * sv)))]) hx hb dX4_save_92 hl (k := 2) rfl (by rw [show Int32.ofInt 1 = nI 1 by decide]; exact nI_add _ _) (by decide) rfl (fun ls hl => ?_)
      refine lv_goto (tgt := 70) hx hb dX4_save_95 (by decide) ?_
      exact ih ((x1 + 1), (upd K4 ((8232 * sv) + x1) (nI (mem x1)))) _ _ _ (by omega) ⟨by omega, kB_s hB, kB_l hlo, hP.sub [0, 1, 2, 3, 4] rfl, hD.sub [0, 1, 2, 3, 4] (by decide) rfl, hS, lv_sub hl [1, 2, 0] rfl⟩
  · skip
    refine lv_iconst (v := nI 0) hx hb dX4_save_23 (by decide) ?_
    refine lv_istore_n (lv' := [(1, .int (nI 0)), (0, .ref oD)]) hx hb dX4_save_24 rfl hl (by decide) rfl (fun ls hl => ?_)
    refine wx_loop (σ := Nat × (Nat → Int32)) (fun xq9 => 8232 - xq9.1) (fun xq9 H locs ls => (xq9.1 ≤ 8232) ∧ (∀ j, j < 16464 → xq9.2 j = if j < xq9.1 then dk (8232 + j) else dk j) ∧ va_P (dC, dI) vwCl [(oD, .inr (4, [.int (nI 0), .ref dF, .int (nI len), .int (nI 1), .ref dH, .int (nI sr), .ref dL, .int (nI en), .int (nI ram), .int (nI mz), .ref dM, .int (nI hp), .int (nI cn), .ref dP, .ref dS, .int (nI fk), .int fp, .int (nI ka), .int (nI kn), .int (nI sv), .ref dK])), (dM, .inl (cI, 8192, .inl dm)), (dP, .inl (cI, 16, .inl dp)), (dS, .inl (cI, 16, .inl ds)), (dK, .inl (cI, 16464, .inl xq9.2))] H ∧ va_D A [(oD, .inr (4, [.int (nI 0), .ref dF, .int (nI len), .int (nI 1), .ref dH, .int (nI sr), .ref dL, .int (nI en), .int (nI ram), .int (nI mz), .ref dM, .int (nI hp), .int (nI cn), .ref dP, .ref dS, .int (nI fk), .int fp, .int (nI ka), .int (nI kn), .int (nI sv), .ref dK])), (dM, .inl (cI, 8192, .inl dm)), (dP, .inl (cI, 16, .inl dp)), (dS, .inl (cI, 16, .inl ds)), (dK, .inl (cI, 16464, .inl xq9.2))] ∧ va_S A s.heap H locs ∧ lv_has ls 3 [(0, .ref oD), (1, .int (nI xq9.1))]) ?_ (0, dk) _ _ _ ⟨by omega, fun j hj => by rw [if_neg (Nat.not_lt_zero _)], hP.sub [0, 1, 2, 3, 4] rfl, hD.sub [0, 1, 2, 3, 4] (by decide) rfl, hS, lv_sub hl [1, 0] rfl⟩
    rintro ⟨i, K3⟩ H locs ls ⟨hi, hA3, hP, hD, hS, hl⟩ ih
    have hi : i ≤ 8232 := hi
    have hA3 : ∀ j, j < 16464 → K3 j = if j < i then dk (8232 + j) else dk j := hA3
    have hP : va_P (dC, dI) vwCl [(oD, .inr (4, [.int (nI 0), .ref dF, .int (nI len), .int (nI 1), .ref dH, .int (nI sr), .ref dL, .int (nI en), .int (nI ram), .int (nI mz), .ref dM, .int (nI hp), .int (nI cn), .ref dP, .ref dS, .int (nI fk), .int fp, .int (nI ka), .int (nI kn), .int (nI sv), .ref dK])), (dM, .inl (cI, 8192, .inl dm)), (dP, .inl (cI, 16, .inl dp)), (dS, .inl (cI, 16, .inl ds)), (dK, .inl (cI, 16464, .inl K3))] H := hP
    have hD : va_D A [(oD, .inr (4, [.int (nI 0), .ref dF, .int (nI len), .int (nI 1), .ref dH, .int (nI sr), .ref dL, .int (nI en), .int (nI ram), .int (nI mz), .ref dM, .int (nI hp), .int (nI cn), .ref dP, .ref dS, .int (nI fk), .int fp, .int (nI ka), .int (nI kn), .int (nI sv), .ref dK])), (dM, .inl (cI, 8192, .inl dm)), (dP, .inl (cI, 16, .inl dp)), (dS, .inl (cI, 16, .inl ds)), (dK, .inl (cI, 16464, .inl K3))] := hD
    have hl : lv_has ls 3 [(0, .ref oD), (1, .int (nI i))] := hl
    refine lv_iload_n hx hb dX4_save_25 rfl (lv_at hl 1 rfl) ?_
    refine lv_sipush (v := nI 8232) hx hb dX4_save_26 (by decide) ?_
    refine wx_icmp_ge (tgt := 54) hx hb dX4_save_29 (by decide) (by omega) (by omega) (fun c_5 => ?_) (fun c_5 => ?_)
    · skip
      refine lv_aload_n hx hb dX4_save_54 rfl (lv_at hl 0 rfl) ?_
      refine lv_iconst (v := nI 1) hx hb dX4_save_55 (by decide) ?_
      refine va_put (D := (dC, dI)) (ci := 4) (v := .int (nI 1)) (ty := .int) (C := RX4) (T := TX4) (N := 21) hx hb hts (by decide +kernel) tyX4 tyX4_ok nmX4 hown hK hP hD hS 0 rfl rfl 19 (by decide) (hts (.fieldLink RX4 110 "GlulxHeadsModel" "states" "I") (by decide +kernel)) (fun _ h9 => h9) rfl (by decide +kernel) rfl rfl (Nat.le_of_ble_eq_true rfl) dX4_save_56 (fun H locs hP hD hS => ?_)
      have hP : va_P (dC, dI) vwCl [(oD, .inr (4, [.int (nI 0), .ref dF, .int (nI len), .int (nI 1), .ref dH, .int (nI sr), .ref dL, .int (nI en), .int (nI ram), .int (nI mz), .ref dM, .int (nI hp), .int (nI cn), .ref dP, .ref dS, .int (nI fk), .int fp, .int (nI ka), .int (nI kn), .int (nI 1), .ref dK])), (dM, .inl (cI, 8192, .inl dm)), (dP, .inl (cI, 16, .inl dp)), (dS, .inl (cI, 16, .inl ds)), (dK, .inl (cI, 16464, .inl K3))] H := hP
      have hD : va_D A [(oD, .inr (4, [.int (nI 0), .ref dF, .int (nI len), .int (nI 1), .ref dH, .int (nI sr), .ref dL, .int (nI en), .int (nI ram), .int (nI mz), .ref dM, .int (nI hp), .int (nI cn), .ref dP, .ref dS, .int (nI fk), .int fp, .int (nI ka), .int (nI kn), .int (nI 1), .ref dK])), (dM, .inl (cI, 8192, .inl dm)), (dP, .inl (cI, 16, .inl dp)), (dS, .inl (cI, 16, .inl ds)), (dK, .inl (cI, 16464, .inl K3))] := hD
      refine lv_sipush (v := nI 8232) hx hb dX4_save_59 (by decide) ?_
      refine lv_aload_n hx hb dX4_save_62 rfl (lv_at hl 0 rfl) ?_
      refine va_get (D := (dC, dI)) (ci := 4) (v := .int (nI 1)) (C := RX4) (T := TX4) (N := 21) hx hb hts (by decide +kernel) hown hK hP 0 rfl rfl 19 (by decide) (hts (.fieldLink RX4 110 "GlulxHeadsModel" "states" "I") (by decide +kernel)) (fun _ h9 => h9) rfl dX4_save_63 ?_
      refine wx_imul hx hb dX4_save_66 ?_
      refine lv_istore_n (lv' := [(1, .int (nI (8232 * 1))), (0, .ref oD)]) hx hb dX4_save_67 rfl hl (by decide) rfl (fun ls hl => ?_)
      refine lv_iconst (v := nI 0) hx hb dX4_save_68 (by decide) ?_
      refine lv_istore_n (lv' := [(2, .int (nI 0)), (1, .int (nI (8232 * 1))), (0, .ref oD)]) hx hb dX4_save_69 rfl hl (by decide) rfl (fun ls hl => ?_)
      refine wx_loop (σ := Nat × (Nat → Int32)) (fun xq9 => mz - xq9.1) (fun xq9 H locs ls => (xq9.1 ≤ mz) ∧ (∀ j, j < xq9.1 → xq9.2 (8232 * 1 + j) = nI (mem j)) ∧ (∀ j, j < 8232 * 1 → xq9.2 j = K3 j) ∧ va_P (dC, dI) vwCl [(oD, .inr (4, [.int (nI 0), .ref dF, .int (nI len), .int (nI 1), .ref dH, .int (nI sr), .ref dL, .int (nI en), .int (nI ram), .int (nI mz), .ref dM, .int (nI hp), .int (nI cn), .ref dP, .ref dS, .int (nI fk), .int fp, .int (nI ka), .int (nI kn), .int (nI 1), .ref dK])), (dM, .inl (cI, 8192, .inl dm)), (dP, .inl (cI, 16, .inl dp)), (dS, .inl (cI, 16, .inl ds)), (dK, .inl (cI, 16464, .inl xq9.2))] H ∧ va_D A [(oD, .inr (4, [.int (nI 0), .ref dF, .int (nI len), .int (nI 1), .ref dH, .int (nI sr), .ref dL, .int (nI en), .int (nI ram), .int (nI mz), .ref dM, .int (nI hp), .int (nI cn), .ref dP, .ref dS, .int (nI fk), .int fp, .int (nI ka), .int (nI kn), .int (nI 1), .ref dK])), (dM, .inl (cI, 8192, .inl dm)), (dP, .inl (cI, 16, .inl dp)), (dS, .inl (cI, 16, .inl ds)), (dK, .inl (cI, 16464, .inl xq9.2))] ∧ va_S A s.heap H locs ∧ lv_has ls 3 [(0, .ref oD), (1, .int (nI (8232 * 1))), (2, .int (nI xq9.1))]) ?_ (0, K3) _ _ _ ⟨by omega, fun j hj => absurd hj (Nat.not_lt_zero _), fun j hj => rfl, hP.sub [0, 1, 2, 3, 4] rfl, hD.sub [0, 1, 2, 3, 4] (by decide) rfl, hS, lv_sub hl [2, 1, 0] rfl⟩
      rintro ⟨x1, K4⟩ H locs ls ⟨hx1, hB, hlo, hP, hD, hS, hl⟩ ih
      have hx1 : x1 ≤ mz := hx1
      have hB : ∀ j, j < x1 → K4 (8232 * 1 + j) = nI (mem j) := hB
      have hlo : ∀ j, j < 8232 * 1 → K4 j = K3 j := hlo
      have hP : va_P (dC, dI) vwCl [(oD, .inr (4, [.int (nI 0), .ref dF, .int (nI len), .int (nI 1), .ref dH, .int (nI sr), .ref dL, .int (nI en), .int (nI ram), .int (nI mz), .ref dM, .int (nI hp), .int (nI cn), .ref dP, .ref dS, .int (nI fk), .int fp, .int (nI ka), .int (nI kn), .int (nI 1), .ref dK])), (dM, .inl (cI, 8192, .inl dm)), (dP, .inl (cI, 16, .inl dp)), (dS, .inl (cI, 16, .inl ds)), (dK, .inl (cI, 16464, .inl K4))] H := hP
      have hD : va_D A [(oD, .inr (4, [.int (nI 0), .ref dF, .int (nI len), .int (nI 1), .ref dH, .int (nI sr), .ref dL, .int (nI en), .int (nI ram), .int (nI mz), .ref dM, .int (nI hp), .int (nI cn), .ref dP, .ref dS, .int (nI fk), .int fp, .int (nI ka), .int (nI kn), .int (nI 1), .ref dK])), (dM, .inl (cI, 8192, .inl dm)), (dP, .inl (cI, 16, .inl dp)), (dS, .inl (cI, 16, .inl ds)), (dK, .inl (cI, 16464, .inl K4))] := hD
      have hl : lv_has ls 3 [(0, .ref oD), (1, .int (nI (8232 * 1))), (2, .int (nI x1))] := hl
      refine lv_iload_n hx hb dX4_save_70 rfl (lv_at hl 2 rfl) ?_
      refine lv_aload_n hx hb dX4_save_71 rfl (lv_at hl 0 rfl) ?_
      refine va_get (D := (dC, dI)) (ci := 4) (v := .int (nI mz)) (C := RX4) (T := TX4) (N := 21) hx hb hts (by decide +kernel) hown hK hP 0 rfl rfl 9 (by decide) (hts (.fieldLink RX4 89 "GlulxHeadsModel" "m" "I") (by decide +kernel)) (fun _ h9 => h9) rfl dX4_save_72 ?_
      refine wx_icmp_ge (tgt := 98) hx hb dX4_save_75 (by decide) (by omega) (by omega) (fun c_6 => ?_) (fun c_6 => ?_)
      · skip
        refine lv_aload_n hx hb dX4_save_98 rfl (lv_at hl 0 rfl) ?_
        refine va_get (D := (dC, dI)) (ci := 4) (v := .ref dK) (C := RX4) (T := TX4) (N := 21) hx hb hts (by decide +kernel) hown hK hP 0 rfl rfl 20 (by decide) (hts (.fieldLink RX4 29 "GlulxHeadsModel" "kept" "[I") (by decide +kernel)) (fun _ h9 => h9) rfl dX4_save_99 ?_
        refine lv_iload_n hx hb dX4_save_102 rfl (lv_at hl 1 rfl) ?_
        refine lv_sipush (v := nI 8192) hx hb dX4_save_103 (by decide) ?_
        refine wx_iadd hx hb dX4_save_106 ?_
        refine lv_aload_n hx hb dX4_save_107 rfl (lv_at hl 0 rfl) ?_
        refine va_get (D := (dC, dI)) (ci := 4) (v := .int (nI mz)) (C := RX4) (T := TX4) (N := 21) hx hb hts (by decide +kernel) hown hK hP 0 rfl rfl 9 (by decide) (hts (.fieldLink RX4 89 "GlulxHeadsModel" "m" "I") (by decide +kernel)) (fun _ h9 => h9) rfl dX4_save_108 ?_
        refine wx_iast hx hb hK hP hD hS 4 1 rfl rfl (by omega) (by decide) dX4_save_111 (fun H locs hP hD hS => ?_)
        have hP : va_P (dC, dI) vwCl [(oD, .inr (4, [.int (nI 0), .ref dF, .int (nI len), .int (nI 1), .ref dH, .int (nI sr), .ref dL, .int (nI en), .int (nI ram), .int (nI mz), .ref dM, .int (nI hp), .int (nI cn), .ref dP, .ref dS, .int (nI fk), .int fp, .int (nI ka), .int (nI kn), .int (nI 1), .ref dK])), (dM, .inl (cI, 8192, .inl dm)), (dP, .inl (cI, 16, .inl dp)), (dS, .inl (cI, 16, .inl ds)), (dK, .inl (cI, 16464, .inl (upd K4 ((8232 * 1) + 8192) (nI mz))))] H := hP
        have hD : va_D A [(oD, .inr (4, [.int (nI 0), .ref dF, .int (nI len), .int (nI 1), .ref dH, .int (nI sr), .ref dL, .int (nI en), .int (nI ram), .int (nI mz), .ref dM, .int (nI hp), .int (nI cn), .ref dP, .ref dS, .int (nI fk), .int fp, .int (nI ka), .int (nI kn), .int (nI 1), .ref dK])), (dM, .inl (cI, 8192, .inl dm)), (dP, .inl (cI, 16, .inl dp)), (dS, .inl (cI, 16, .inl ds)), (dK, .inl (cI, 16464, .inl (upd K4 ((8232 * 1) + 8192) (nI mz))))] := hD
        refine lv_aload_n hx hb dX4_save_112 rfl (lv_at hl 0 rfl) ?_
        refine va_get (D := (dC, dI)) (ci := 4) (v := .ref dK) (C := RX4) (T := TX4) (N := 21) hx hb hts (by decide +kernel) hown hK hP 0 rfl rfl 20 (by decide) (hts (.fieldLink RX4 29 "GlulxHeadsModel" "kept" "[I") (by decide +kernel)) (fun _ h9 => h9) rfl dX4_save_113 ?_
        refine lv_iload_n hx hb dX4_save_116 rfl (lv_at hl 1 rfl) ?_
        refine lv_sipush (v := nI 8193) hx hb dX4_save_117 (by decide) ?_
        refine wx_iadd hx hb dX4_save_120 ?_
        refine lv_aload_n hx hb dX4_save_121 rfl (lv_at hl 0 rfl) ?_
        refine va_get (D := (dC, dI)) (ci := 4) (v := .int (nI hp)) (C := RX4) (T := TX4) (N := 21) hx hb hts (by decide +kernel) hown hK hP 0 rfl rfl 11 (by decide) (hts (.fieldLink RX4 92 "GlulxHeadsModel" "heap" "I") (by decide +kernel)) (fun _ h9 => h9) rfl dX4_save_122 ?_
        refine wx_iast hx hb hK hP hD hS 4 1 rfl rfl (by omega) (by decide) dX4_save_125 (fun H locs hP hD hS => ?_)
        have hP : va_P (dC, dI) vwCl [(oD, .inr (4, [.int (nI 0), .ref dF, .int (nI len), .int (nI 1), .ref dH, .int (nI sr), .ref dL, .int (nI en), .int (nI ram), .int (nI mz), .ref dM, .int (nI hp), .int (nI cn), .ref dP, .ref dS, .int (nI fk), .int fp, .int (nI ka), .int (nI kn), .int (nI 1), .ref dK])), (dM, .inl (cI, 8192, .inl dm)), (dP, .inl (cI, 16, .inl dp)), (dS, .inl (cI, 16, .inl ds)), (dK, .inl (cI, 16464, .inl (upd (upd K4 ((8232 * 1) + 8192) (nI mz)) ((8232 * 1) + 8193) (nI hp))))] H := hP
        have hD : va_D A [(oD, .inr (4, [.int (nI 0), .ref dF, .int (nI len), .int (nI 1), .ref dH, .int (nI sr), .ref dL, .int (nI en), .int (nI ram), .int (nI mz), .ref dM, .int (nI hp), .int (nI cn), .ref dP, .ref dS, .int (nI fk), .int fp, .int (nI ka), .int (nI kn), .int (nI 1), .ref dK])), (dM, .inl (cI, 8192, .inl dm)), (dP, .inl (cI, 16, .inl dp)), (dS, .inl (cI, 16, .inl ds)), (dK, .inl (cI, 16464, .inl (upd (upd K4 ((8232 * 1) + 8192) (nI mz)) ((8232 * 1) + 8193) (nI hp))))] := hD
        refine lv_aload_n hx hb dX4_save_126 rfl (lv_at hl 0 rfl) ?_
        refine va_get (D := (dC, dI)) (ci := 4) (v := .ref dK) (C := RX4) (T := TX4) (N := 21) hx hb hts (by decide +kernel) hown hK hP 0 rfl rfl 20 (by decide) (hts (.fieldLink RX4 29 "GlulxHeadsModel" "kept" "[I") (by decide +kernel)) (fun _ h9 => h9) rfl dX4_save_127 ?_
        refine lv_iload_n hx hb dX4_save_130 rfl (lv_at hl 1 rfl) ?_
        refine lv_sipush (v := nI 8194) hx hb dX4_save_131 (by decide) ?_
        refine wx_iadd hx hb dX4_save_134 ?_
        refine lv_aload_n hx hb dX4_save_135 rfl (lv_at hl 0 rfl) ?_
        refine va_get (D := (dC, dI)) (ci := 4) (v := .int (nI cn)) (C := RX4) (T := TX4) (N := 21) hx hb hts (by decide +kernel) hown hK hP 0 rfl rfl 12 (by decide) (hts (.fieldLink RX4 95 "GlulxHeadsModel" "blocks" "I") (by decide +kernel)) (fun _ h9 => h9) rfl dX4_save_136 ?_
        refine wx_iast hx hb hK hP hD hS 4 1 rfl rfl (by omega) (by decide) dX4_save_139 (fun H locs hP hD hS => ?_)
        have hP : va_P (dC, dI) vwCl [(oD, .inr (4, [.int (nI 0), .ref dF, .int (nI len), .int (nI 1), .ref dH, .int (nI sr), .ref dL, .int (nI en), .int (nI ram), .int (nI mz), .ref dM, .int (nI hp), .int (nI cn), .ref dP, .ref dS, .int (nI fk), .int fp, .int (nI ka), .int (nI kn), .int (nI 1), .ref dK])), (dM, .inl (cI, 8192, .inl dm)), (dP, .inl (cI, 16, .inl dp)), (dS, .inl (cI, 16, .inl ds)), (dK, .inl (cI, 16464, .inl (upd (upd (upd K4 ((8232 * 1) + 8192) (nI mz)) ((8232 * 1) + 8193) (nI hp)) ((8232 * 1) + 8194) (nI cn))))] H := hP
        have hD : va_D A [(oD, .inr (4, [.int (nI 0), .ref dF, .int (nI len), .int (nI 1), .ref dH, .int (nI sr), .ref dL, .int (nI en), .int (nI ram), .int (nI mz), .ref dM, .int (nI hp), .int (nI cn), .ref dP, .ref dS, .int (nI fk), .int fp, .int (nI ka), .int (nI kn), .int (nI 1), .ref dK])), (dM, .inl (cI, 8192, .inl dm)), (dP, .inl (cI, 16, .inl dp)), (dS, .inl (cI, 16, .inl ds)), (dK, .inl (cI, 16464, .inl (upd (upd (upd K4 ((8232 * 1) + 8192) (nI mz)) ((8232 * 1) + 8193) (nI hp)) ((8232 * 1) + 8194) (nI cn))))] := hD
        refine lv_iconst (v := nI 0) hx hb dX4_save_140 (by decide) ?_
        refine lv_istore_n (lv' := [(2, .int (nI 0)), (0, .ref oD), (1, .int (nI (8232 * 1)))]) hx hb dX4_save_141 rfl hl (by decide) rfl (fun ls hl => ?_)
        refine wx_loop (σ := Nat × (Nat → Int32)) (fun xq9 => cn - xq9.1) (fun xq9 H locs ls => (xq9.1 ≤ cn) ∧ (sInv xq9.2 K3 (8232 * 1) mz mem hp cn pl ll xq9.1) ∧ va_P (dC, dI) vwCl [(oD, .inr (4, [.int (nI 0), .ref dF, .int (nI len), .int (nI 1), .ref dH, .int (nI sr), .ref dL, .int (nI en), .int (nI ram), .int (nI mz), .ref dM, .int (nI hp), .int (nI cn), .ref dP, .ref dS, .int (nI fk), .int fp, .int (nI ka), .int (nI kn), .int (nI 1), .ref dK])), (dM, .inl (cI, 8192, .inl dm)), (dP, .inl (cI, 16, .inl dp)), (dS, .inl (cI, 16, .inl ds)), (dK, .inl (cI, 16464, .inl xq9.2))] H ∧ va_D A [(oD, .inr (4, [.int (nI 0), .ref dF, .int (nI len), .int (nI 1), .ref dH, .int (nI sr), .ref dL, .int (nI en), .int (nI ram), .int (nI mz), .ref dM, .int (nI hp), .int (nI cn), .ref dP, .ref dS, .int (nI fk), .int fp, .int (nI ka), .int (nI kn), .int (nI 1), .ref dK])), (dM, .inl (cI, 8192, .inl dm)), (dP, .inl (cI, 16, .inl dp)), (dS, .inl (cI, 16, .inl ds)), (dK, .inl (cI, 16464, .inl xq9.2))] ∧ va_S A s.heap H locs ∧ lv_has ls 3 [(0, .ref oD), (1, .int (nI (8232 * 1))), (2, .int (nI xq9.1))]) ?_ (0, (upd (upd (upd K4 ((8232 * 1) + 8192) (nI mz)) ((8232 * 1) + 8193) (nI hp)) ((8232 * 1) + 8194) (nI cn))) _ _ _ ⟨by omega, sInv_0 (by omega) (fun j hj => hB j (by omega)) hlo, hP.sub [0, 1, 2, 3, 4] rfl, hD.sub [0, 1, 2, 3, 4] (by decide) rfl, hS, lv_sub hl [1, 2, 0] rfl⟩
        rintro ⟨x2, K5⟩ H locs ls ⟨hx2, hC, hP, hD, hS, hl⟩ ih
        have hx2 : x2 ≤ cn := hx2
        have hC : sInv K5 K3 (8232 * 1) mz mem hp cn pl ll x2 := hC
        have hP : va_P (dC, dI) vwCl [(oD, .inr (4, [.int (nI 0), .ref dF, .int (nI len), .int (nI 1), .ref dH, .int (nI sr), .ref dL, .int (nI en), .int (nI ram), .int (nI mz), .ref dM, .int (nI hp), .int (nI cn), .ref dP, .ref dS, .int (nI fk), .int fp, .int (nI ka), .int (nI kn), .int (nI 1), .ref dK])), (dM, .inl (cI, 8192, .inl dm)), (dP, .inl (cI, 16, .inl dp)), (dS, .inl (cI, 16, .inl ds)), (dK, .inl (cI, 16464, .inl K5))] H := hP
        have hD : va_D A [(oD, .inr (4, [.int (nI 0), .ref dF, .int (nI len), .int (nI 1), .ref dH, .int (nI sr), .ref dL, .int (nI en), .int (nI ram), .int (nI mz), .ref dM, .int (nI hp), .int (nI cn), .ref dP, .ref dS, .int (nI fk), .int fp, .int (nI ka), .int (nI kn), .int (nI 1), .ref dK])), (dM, .inl (cI, 8192, .inl dm)), (dP, .inl (cI, 16, .inl dp)), (dS, .inl (cI, 16, .inl ds)), (dK, .inl (cI, 16464, .inl K5))] := hD
        have hl : lv_has ls 3 [(0, .ref oD), (1, .int (nI (8232 * 1))), (2, .int (nI x2))] := hl
        refine lv_iload_n hx hb dX4_save_142 rfl (lv_at hl 2 rfl) ?_
        refine lv_aload_n hx hb dX4_save_143 rfl (lv_at hl 0 rfl) ?_
        refine va_get (D := (dC, dI)) (ci := 4) (v := .int (nI cn)) (C := RX4) (T := TX4) (N := 21) hx hb hts (by decide +kernel) hown hK hP 0 rfl rfl 12 (by decide) (hts (.fieldLink RX4 95 "GlulxHeadsModel" "blocks" "I") (by decide +kernel)) (fun _ h9 => h9) rfl dX4_save_144 ?_
        refine wx_icmp_ge (tgt := 196) hx hb dX4_save_147 (by decide) (by omega) (by omega) (fun c_7 => ?_) (fun c_7 => ?_)
        · skip
          refine lv_aload_n hx hb dX4_save_196 rfl (lv_at hl 0 rfl) ?_
          refine lv_dup hx hb dX4_save_197 rfl ?_
          refine va_get (D := (dC, dI)) (ci := 4) (v := .int (nI 1)) (C := RX4) (T := TX4) (N := 21) hx hb hts (by decide +kernel) hown hK hP 0 rfl rfl 19 (by decide) (hts (.fieldLink RX4 110 "GlulxHeadsModel" "states" "I") (by decide +kernel)) (fun _ h9 => h9) rfl dX4_save_198 ?_
          refine lv_iconst (v := nI 1) hx hb dX4_save_201 (by decide) ?_
          refine wx_iadd hx hb dX4_save_202 ?_
          refine va_put (D := (dC, dI)) (ci := 4) (v := .int (nI (1 + 1))) (ty := .int) (C := RX4) (T := TX4) (N := 21) hx hb hts (by decide +kernel) tyX4 tyX4_ok nmX4 hown hK hP hD hS 0 rfl rfl 19 (by decide) (hts (.fieldLink RX4 110 "GlulxHeadsModel" "states" "I") (by decide +kernel)) (fun _ h9 => h9) rfl (by decide +kernel) rfl rfl (Nat.le_of_ble_eq_true rfl) dX4_save_203 (fun H locs hP hD hS => ?_)
          have hP : va_P (dC, dI) vwCl [(oD, .inr (4, [.int (nI 0), .ref dF, .int (nI len), .int (nI 1), .ref dH, .int (nI sr), .ref dL, .int (nI en), .int (nI ram), .int (nI mz), .ref dM, .int (nI hp), .int (nI cn), .ref dP, .ref dS, .int (nI fk), .int fp, .int (nI ka), .int (nI kn), .int (nI (1 + 1)), .ref dK])), (dM, .inl (cI, 8192, .inl dm)), (dP, .inl (cI, 16, .inl dp)), (dS, .inl (cI, 16, .inl ds)), (dK, .inl (cI, 16464, .inl K5))] H := hP
          have hD : va_D A [(oD, .inr (4, [.int (nI 0), .ref dF, .int (nI len), .int (nI 1), .ref dH, .int (nI sr), .ref dL, .int (nI en), .int (nI ram), .int (nI mz), .ref dM, .int (nI hp), .int (nI cn), .ref dP, .ref dS, .int (nI fk), .int fp, .int (nI ka), .int (nI kn), .int (nI (1 + 1)), .ref dK])), (dM, .inl (cI, 8192, .inl dm)), (dP, .inl (cI, 16, .inl dp)), (dS, .inl (cI, 16, .inl ds)), (dK, .inl (cI, 16464, .inl K5))] := hD
          refine lv_aload_n hx hb dX4_save_206 rfl (lv_at hl 0 rfl) ?_
          refine va_get (D := (dC, dI)) (ci := 4) (v := .int (nI (1 + 1))) (C := RX4) (T := TX4) (N := 21) hx hb hts (by decide +kernel) hown hK hP 0 rfl rfl 19 (by decide) (hts (.fieldLink RX4 110 "GlulxHeadsModel" "states" "I") (by decide +kernel)) (fun _ h9 => h9) rfl dX4_save_207 ?_
          have hP9 := hP.sub (ws' := [(oD, .inr (4, [.int (nI 0), .ref dF, .int (nI len), .int (nI 1), .ref dH, .int (nI sr), .ref dL, .int (nI en), .int (nI ram), .int (nI mz), .ref dM, .int (nI hp), .int (nI cn), .ref dP, .ref dS, .int (nI fk), .int fp, .int (nI ka), .int (nI kn), .int (nI (1 + 1)), .ref dK])), (dM, .inl (cI, 8192, .inl dm)), (dP, .inl (cI, 16, .inl dp)), (dS, .inl (cI, 16, .inl ds)), (dK, .inl (cI, 16464, .inl K5))]) [0, 1, 2, 3, 4] rfl
          have hD9 := hD.sub (ws' := [(oD, .inr (4, [.int (nI 0), .ref dF, .int (nI len), .int (nI 1), .ref dH, .int (nI sr), .ref dL, .int (nI en), .int (nI ram), .int (nI mz), .ref dM, .int (nI hp), .int (nI cn), .ref dP, .ref dS, .int (nI fk), .int fp, .int (nI ka), .int (nI kn), .int (nI (1 + 1)), .ref dK])), (dM, .inl (cI, 8192, .inl dm)), (dP, .inl (cI, 16, .inl dp)), (dS, .inl (cI, 16, .inl ds)), (dK, .inl (cI, 16464, .inl K5))]) [0, 1, 2, 3, 4] (by decide) rfl
          exact W.iret (v := nI (1 + 1)) hx hb hr (fun t ht hW => ⟨⟨(nI (1 + 1)), (K5, (1 + 1)), rfl, ⟨rfl, by dsimp only; omega, kOk_of (by rw [show cn = x2 by omega] at hC ⊢; exact hC), fun h => absurd h (by omega), fun h j hj => by dsimp only; rw [hC.2.2.2.2.2.2 j (by omega), hA3 j (by omega), if_pos (by omega)]⟩, by rw [ht]; exact hP9, hD9⟩, hS.F ht⟩) hS.2.2 dX4_save_210
        · skip
          refine lv_aload_n hx hb dX4_save_150 rfl (lv_at hl 0 rfl) ?_
          refine va_get (D := (dC, dI)) (ci := 4) (v := .ref dK) (C := RX4) (T := TX4) (N := 21) hx hb hts (by decide +kernel) hown hK hP 0 rfl rfl 20 (by decide) (hts (.fieldLink RX4 29 "GlulxHeadsModel" "kept" "[I") (by decide +kernel)) (fun _ h9 => h9) rfl dX4_save_151 ?_
          refine lv_iload_n hx hb dX4_save_154 rfl (lv_at hl 1 rfl) ?_
          refine lv_sipush (v := nI 8195) hx hb dX4_save_155 (by decide) ?_
          refine wx_iadd hx hb dX4_save_158 ?_
          refine lv_iconst (v := nI 2) hx hb dX4_save_159 (by decide) ?_
          refine lv_iload_n hx hb dX4_save_160 rfl (lv_at hl 2 rfl) ?_
          refine wx_imul hx hb dX4_save_161 ?_
          refine wx_iadd hx hb dX4_save_162 ?_
          refine lv_aload_n hx hb dX4_save_163 rfl (lv_at hl 0 rfl) ?_
          refine va_get (D := (dC, dI)) (ci := 4) (v := .ref dP) (C := RX4) (T := TX4) (N := 21) hx hb hts (by decide +kernel) hown hK hP 0 rfl rfl 13 (by decide) (hts (.fieldLink RX4 23 "GlulxHeadsModel" "blockAt" "[I") (by decide +kernel)) (fun _ h9 => h9) rfl dX4_save_164 ?_
          refine lv_iload_n hx hb dX4_save_167 rfl (lv_at hl 2 rfl) ?_
          refine wx_iald hx hb hK hP 2 1 rfl rfl (by omega) (by decide) dX4_save_168 ?_
          refine wx_top (hPl x2 (by omega)) ?_
          refine wx_iast hx hb hK hP hD hS 4 1 rfl rfl (by omega) (by decide) dX4_save_169 (fun H locs hP hD hS => ?_)
          have hP : va_P (dC, dI) vwCl [(oD, .inr (4, [.int (nI 0), .ref dF, .int (nI len), .int (nI 1), .ref dH, .int (nI sr), .ref dL, .int (nI en), .int (nI ram), .int (nI mz), .ref dM, .int (nI hp), .int (nI cn), .ref dP, .ref dS, .int (nI fk), .int fp, .int (nI ka), .int (nI kn), .int (nI 1), .ref dK])), (dM, .inl (cI, 8192, .inl dm)), (dP, .inl (cI, 16, .inl dp)), (dS, .inl (cI, 16, .inl ds)), (dK, .inl (cI, 16464, .inl (upd K5 (((8232 * 1) + 8195) + (2 * x2)) (nI (pl x2)))))] H := hP
          have hD : va_D A [(oD, .inr (4, [.int (nI 0), .ref dF, .int (nI len), .int (nI 1), .ref dH, .int (nI sr), .ref dL, .int (nI en), .int (nI ram), .int (nI mz), .ref dM, .int (nI hp), .int (nI cn), .ref dP, .ref dS, .int (nI fk), .int fp, .int (nI ka), .int (nI kn), .int (nI 1), .ref dK])), (dM, .inl (cI, 8192, .inl dm)), (dP, .inl (cI, 16, .inl dp)), (dS, .inl (cI, 16, .inl ds)), (dK, .inl (cI, 16464, .inl (upd K5 (((8232 * 1) + 8195) + (2 * x2)) (nI (pl x2)))))] := hD
          refine lv_aload_n hx hb dX4_save_170 rfl (lv_at hl 0 rfl) ?_
          refine va_get (D := (dC, dI)) (ci := 4) (v := .ref dK) (C := RX4) (T := TX4) (N := 21) hx hb hts (by decide +kernel) hown hK hP 0 rfl rfl 20 (by decide) (hts (.fieldLink RX4 29 "GlulxHeadsModel" "kept" "[I") (by decide +kernel)) (fun _ h9 => h9) rfl dX4_save_171 ?_
          refine lv_iload_n hx hb dX4_save_174 rfl (lv_at hl 1 rfl) ?_
          refine lv_sipush (v := nI 8196) hx hb dX4_save_175 (by decide) ?_
          refine wx_iadd hx hb dX4_save_178 ?_
          refine lv_iconst (v := nI 2) hx hb dX4_save_179 (by decide) ?_
          refine lv_iload_n hx hb dX4_save_180 rfl (lv_at hl 2 rfl) ?_
          refine wx_imul hx hb dX4_save_181 ?_
          refine wx_iadd hx hb dX4_save_182 ?_
          refine lv_aload_n hx hb dX4_save_183 rfl (lv_at hl 0 rfl) ?_
          refine va_get (D := (dC, dI)) (ci := 4) (v := .ref dS) (C := RX4) (T := TX4) (N := 21) hx hb hts (by decide +kernel) hown hK hP 0 rfl rfl 14 (by decide) (hts (.fieldLink RX4 26 "GlulxHeadsModel" "blockSize" "[I") (by decide +kernel)) (fun _ h9 => h9) rfl dX4_save_184 ?_
          refine lv_iload_n hx hb dX4_save_187 rfl (lv_at hl 2 rfl) ?_
          refine wx_iald hx hb hK hP 3 1 rfl rfl (by omega) (by decide) dX4_save_188 ?_
          refine wx_top (hLl x2 (by omega)) ?_
          refine wx_iast hx hb hK hP hD hS 4 1 rfl rfl (by omega) (by decide) dX4_save_189 (fun H locs hP hD hS => ?_)
          have hP : va_P (dC, dI) vwCl [(oD, .inr (4, [.int (nI 0), .ref dF, .int (nI len), .int (nI 1), .ref dH, .int (nI sr), .ref dL, .int (nI en), .int (nI ram), .int (nI mz), .ref dM, .int (nI hp), .int (nI cn), .ref dP, .ref dS, .int (nI fk), .int fp, .int (nI ka), .int (nI kn), .int (nI 1), .ref dK])), (dM, .inl (cI, 8192, .inl dm)), (dP, .inl (cI, 16, .inl dp)), (dS, .inl (cI, 16, .inl ds)), (dK, .inl (cI, 16464, .inl (upd (upd K5 (((8232 * 1) + 8195) + (2 * x2)) (nI (pl x2))) (((8232 * 1) + 8196) + (2 * x2)) (nI (ll x2)))))] H := hP
          have hD : va_D A [(oD, .inr (4, [.int (nI 0), .ref dF, .int (nI len), .int (nI 1), .ref dH, .int (nI sr), .ref dL, .int (nI en), .int (nI ram), .int (nI mz), .ref dM, .int (nI hp), .int (nI cn), .ref dP, .ref dS, .int (nI fk), .int fp, .int (nI ka), .int (nI kn), .int (nI 1), .ref dK])), (dM, .inl (cI, 8192, .inl dm)), (dP, .inl (cI, 16, .inl dp)), (dS, .inl (cI, 16, .inl ds)), (dK, .inl (cI, 16464, .inl (upd (upd K5 (((8232 * 1) + 8195) + (2 * x2)) (nI (pl x2))) (((8232 * 1) + 8196) + (2 * x2)) (nI (ll x2)))))] := hD
          refine lv_iinc (v := nI (x2 + 1)) (lv' := [(2, .int (nI (x2 + 1))), (0, .ref oD), (1, .int (nI (8232 * 1)))]) hx hb dX4_save_190 hl (k := 2) rfl (by rw [show Int32.ofInt 1 = nI 1 by decide]; exact nI_add _ _) (by decide) rfl (fun ls hl => ?_)
          refine lv_goto (tgt := 142) hx hb dX4_save_193 (by decide) ?_
          exact ih ((x2 + 1), (upd (upd K5 (((8232 * 1) + 8195) + (2 * x2)) (nI (pl x2))) (((8232 * 1) + 8196) + (2 * x2)) (nI (ll x2)))) _ _ _ (by omega) ⟨by omega, sInv_s hmz hC, hP.sub [0, 1, 2, 3, 4] rfl, hD.sub [0, 1, 2, 3, 4] (by decide) rfl, hS, lv_sub hl [1, 2, 0] rfl⟩
      · skip
        refine lv_aload_n hx hb dX4_save_78 rfl (lv_at hl 0 rfl) ?_
        refine va_get (D := (dC, dI)) (ci := 4) (v := .ref dK) (C := RX4) (T := TX4) (N := 21) hx hb hts (by decide +kernel) hown hK hP 0 rfl rfl 20 (by decide) (hts (.fieldLink RX4 29 "GlulxHeadsModel" "kept" "[I") (by decide +kernel)) (fun _ h9 => h9) rfl dX4_save_79 ?_
        refine lv_iload_n hx hb dX4_save_82 rfl (lv_at hl 1 rfl) ?_
        refine lv_iload_n hx hb dX4_save_83 rfl (lv_at hl 2 rfl) ?_
        refine wx_iadd hx hb dX4_save_84 ?_
        refine lv_aload_n hx hb dX4_save_85 rfl (lv_at hl 0 rfl) ?_
        refine va_get (D := (dC, dI)) (ci := 4) (v := .ref dM) (C := RX4) (T := TX4) (N := 21) hx hb hts (by decide +kernel) hown hK hP 0 rfl rfl 10 (by decide) (hts (.fieldLink RX4 20 "GlulxHeadsModel" "memory" "[I") (by decide +kernel)) (fun _ h9 => h9) rfl dX4_save_86 ?_
        refine lv_iload_n hx hb dX4_save_89 rfl (lv_at hl 2 rfl) ?_
        refine wx_iald hx hb hK hP 1 1 rfl rfl (by omega) (by decide) dX4_save_90 ?_
        refine wx_top (hm x1 (by omega)) ?_
        refine wx_iast hx hb hK hP hD hS 4 1 rfl rfl (by omega) (by decide) dX4_save_91 (fun H locs hP hD hS => ?_)
        have hP : va_P (dC, dI) vwCl [(oD, .inr (4, [.int (nI 0), .ref dF, .int (nI len), .int (nI 1), .ref dH, .int (nI sr), .ref dL, .int (nI en), .int (nI ram), .int (nI mz), .ref dM, .int (nI hp), .int (nI cn), .ref dP, .ref dS, .int (nI fk), .int fp, .int (nI ka), .int (nI kn), .int (nI 1), .ref dK])), (dM, .inl (cI, 8192, .inl dm)), (dP, .inl (cI, 16, .inl dp)), (dS, .inl (cI, 16, .inl ds)), (dK, .inl (cI, 16464, .inl (upd K4 ((8232 * 1) + x1) (nI (mem x1)))))] H := hP
        have hD : va_D A [(oD, .inr (4, [.int (nI 0), .ref dF, .int (nI len), .int (nI 1), .ref dH, .int (nI sr), .ref dL, .int (nI en), .int (nI ram), .int (nI mz), .ref dM, .int (nI hp), .int (nI cn), .ref dP, .ref dS, .int (nI fk), .int fp, .int (nI ka), .int (nI kn), .int (nI 1), .ref dK])), (dM, .inl (cI, 8192, .inl dm)), (dP, .inl (cI, 16, .inl dp)), (dS, .inl (cI, 16, .inl ds)), (dK, .inl (cI, 16464, .inl (upd K4 ((8232 * 1) + x1) (nI (mem x1)))))] := hD
        refine lv_iinc (v := nI (x1 + 1)) (lv' := [(2, .int (nI (x1 + 1))), (0, .ref oD), (1, .int (nI (8232 * 1)))]) hx hb dX4_save_92 hl (k := 2) rfl (by rw [show Int32.ofInt 1 = nI 1 by decide]; exact nI_add _ _) (by decide) rfl (fun ls hl => ?_)
        refine lv_goto (tgt := 70) hx hb dX4_save_95 (by decide) ?_
        exact ih ((x1 + 1), (upd K4 ((8232 * 1) + x1) (nI (mem x1)))) _ _ _ (by omega) ⟨by omega, kB_s hB, kB_l hlo, hP.sub [0, 1, 2, 3, 4] rfl, hD.sub [0, 1, 2, 3, 4] (by decide) rfl, hS, lv_sub hl [1, 2, 0] rfl⟩
    · skip
      refine lv_aload_n hx hb dX4_save_32 rfl (lv_at hl 0 rfl) ?_
      refine va_get (D := (dC, dI)) (ci := 4) (v := .ref dK) (C := RX4) (T := TX4) (N := 21) hx hb hts (by decide +kernel) hown hK hP 0 rfl rfl 20 (by decide) (hts (.fieldLink RX4 29 "GlulxHeadsModel" "kept" "[I") (by decide +kernel)) (fun _ h9 => h9) rfl dX4_save_33 ?_
      refine lv_iload_n hx hb dX4_save_36 rfl (lv_at hl 1 rfl) ?_
      refine lv_aload_n hx hb dX4_save_37 rfl (lv_at hl 0 rfl) ?_
      refine va_get (D := (dC, dI)) (ci := 4) (v := .ref dK) (C := RX4) (T := TX4) (N := 21) hx hb hts (by decide +kernel) hown hK hP 0 rfl rfl 20 (by decide) (hts (.fieldLink RX4 29 "GlulxHeadsModel" "kept" "[I") (by decide +kernel)) (fun _ h9 => h9) rfl dX4_save_38 ?_
      refine lv_sipush (v := nI 8232) hx hb dX4_save_41 (by decide) ?_
      refine lv_iload_n hx hb dX4_save_44 rfl (lv_at hl 1 rfl) ?_
      refine wx_iadd hx hb dX4_save_45 ?_
      refine wx_iald hx hb hK hP 4 1 rfl rfl (by omega) (by decide) dX4_save_46 ?_
      refine wx_iast hx hb hK hP hD hS 4 1 rfl rfl (by omega) (by decide) dX4_save_47 (fun H locs hP hD hS => ?_)
      have hP : va_P (dC, dI) vwCl [(oD, .inr (4, [.int (nI 0), .ref dF, .int (nI len), .int (nI 1), .ref dH, .int (nI sr), .ref dL, .int (nI en), .int (nI ram), .int (nI mz), .ref dM, .int (nI hp), .int (nI cn), .ref dP, .ref dS, .int (nI fk), .int fp, .int (nI ka), .int (nI kn), .int (nI sv), .ref dK])), (dM, .inl (cI, 8192, .inl dm)), (dP, .inl (cI, 16, .inl dp)), (dS, .inl (cI, 16, .inl ds)), (dK, .inl (cI, 16464, .inl (upd K3 i (K3 (8232 + i)))))] H := hP
      have hD : va_D A [(oD, .inr (4, [.int (nI 0), .ref dF, .int (nI len), .int (nI 1), .ref dH, .int (nI sr), .ref dL, .int (nI en), .int (nI ram), .int (nI mz), .ref dM, .int (nI hp), .int (nI cn), .ref dP, .ref dS, .int (nI fk), .int fp, .int (nI ka), .int (nI kn), .int (nI sv), .ref dK])), (dM, .inl (cI, 8192, .inl dm)), (dP, .inl (cI, 16, .inl dp)), (dS, .inl (cI, 16, .inl ds)), (dK, .inl (cI, 16464, .inl (upd K3 i (K3 (8232 + i)))))] := hD
      refine lv_iinc (v := nI (i + 1)) (lv' := [(1, .int (nI (i + 1))), (0, .ref oD)]) hx hb dX4_save_48 hl (k := 1) rfl (by rw [show Int32.ofInt 1 = nI 1 by decide]; exact nI_add _ _) (by decide) rfl (fun ls hl => ?_)
      refine lv_goto (tgt := 25) hx hb dX4_save_51 (by decide) ?_
      exact ih ((i + 1), (upd K3 i (K3 (8232 + i)))) _ _ _ (by omega) ⟨by omega, kshift hA3 (by omega), hP.sub [0, 1, 2, 3, 4] rfl, hD.sub [0, 1, 2, 3, 4] (by decide) rfl, hS, lv_sub hl [1, 0] rfl⟩
set_option maxHeartbeats 1000000 in
set_option maxRecDepth 100000 in
theorem c_X4_restore_Z (l : Launch) (dC : Nat → ClassId) (dI : Nat → Nat → Nat) (cB cI cJ : ClassId) (sz : Nat) (oD : Nat) (th : Nat) (dF : Nat) (len : Nat) (dH : Nat) (sr : Nat) (dL : Nat) (en : Nat) (ram : Nat) (mz : Nat) (dM : Nat) (hp : Nat) (cn : Nat) (dP : Nat) (dS : Nat) (fk : Nat) (fp : Int32) (ka : Nat) (kn : Nat) (dK : Nat)  : Met l yX4_restore wsX4_restore ({ frames := 1, cells := 0, slots := 0, locals := 23 }) (va_Pc [.ref oD] (wPre dC dI cB cI cJ sz [(oD, .inr (4, [.int (nI th), .ref dF, .int (nI len), .int (nI 1), .ref dH, .int (nI sr), .ref dL, .int (nI en), .int (nI ram), .int (nI mz), .ref dM, .int (nI hp), .int (nI cn), .ref dP, .ref dS, .int (nI fk), .int fp, .int (nI ka), .int (nI kn), .int (nI 0), .ref dK]))])) (va_Qi (fun (r : Int32) (u : Unit) => r = -3) (fun (u : Unit) => wPost dC dI (va_A [(oD, .inr (4, [.int (nI th), .ref dF, .int (nI len), .int (nI 1), .ref dH, .int (nI sr), .ref dL, .int (nI en), .int (nI ram), .int (nI mz), .ref dM, .int (nI hp), .int (nI cn), .ref dP, .ref dS, .int (nI fk), .int fp, .int (nI ka), .int (nI kn), .int (nI 0), .ref dK]))] sz) [(oD, .inr (4, [.int (nI 0), .ref dF, .int (nI len), .int (nI 1), .ref dH, .int (nI sr), .ref dL, .int (nI en), .int (nI ram), .int (nI mz), .ref dM, .int (nI hp), .int (nI cn), .ref dP, .ref dS, .int (nI fk), .int fp, .int (nI ka), .int (nI kn), .int (nI 0), .ref dK]))]) (va_A [(oD, .inr (4, [.int (nI th), .ref dF, .int (nI len), .int (nI 1), .ref dH, .int (nI sr), .ref dL, .int (nI en), .int (nI ram), .int (nI mz), .ref dM, .int (nI hp), .int (nI cn), .ref dP, .ref dS, .int (nI fk), .int fp, .int (nI ka), .int (nI kn), .int (nI 0), .ref dK]))] sz)) 0 0 (va_A [(oD, .inr (4, [.int (nI th), .ref dF, .int (nI len), .int (nI 1), .ref dH, .int (nI sr), .ref dL, .int (nI en), .int (nI ram), .int (nI mz), .ref dM, .int (nI hp), .int (nI cn), .ref dP, .ref dS, .int (nI fk), .int fp, .int (nI ka), .int (nI kn), .int (nI 0), .ref dK]))] sz) := by
  refine Met.ofW (cc := cX4_restore) (maxL := 4) (ret := (some .int)) (by decide) rfl ?_
  intro p e s m args below meth c s₁ B hml hv
  obtain ⟨rfl, hsz, hP, hK, hD0, hN⟩ := hv
  have hx := B.exec
  have hb := B.bytes
  have hr := B.returns
  have hts := atoms_spec (ws := wsX4_restore) B.pre
  have hown : s.vm.findClass RX4 = some m.cls := findClass_of_methodNamed B.named
  have hlocks := B.notSynchronized
  subst hsz
  have hD := hD0.self (sz := s.heap.size)
  generalize hAe : va_A [(oD, .inr (4, [.int (nI th), .ref dF, .int (nI len), .int (nI 1), .ref dH, .int (nI sr), .ref dL, .int (nI en), .int (nI ram), .int (nI mz), .ref dM, .int (nI hp), .int (nI cn), .ref dP, .ref dS, .int (nI fk), .int fp, .int (nI ka), .int (nI kn), .int (nI 0), .ref dK]))] s.heap.size = A at hD ⊢
  have hA : ∀ q : Nat, s.heap.size ≤ q → A q := fun q h => by rw [← hAe]; exact Or.inr h
  have hS : va_S A s.heap s.heap [] := va_S.rf
  have hP : va_P (dC, dI) vwCl [(oD, .inr (4, [.int (nI th), .ref dF, .int (nI len), .int (nI 1), .ref dH, .int (nI sr), .ref dL, .int (nI en), .int (nI ram), .int (nI mz), .ref dM, .int (nI hp), .int (nI cn), .ref dP, .ref dS, .int (nI fk), .int fp, .int (nI ka), .int (nI kn), .int (nI 0), .ref dK]))] s.heap := hP
  have hl := lv_entry ([.ref oD]) (n := 4) (Nat.le_of_ble_eq_true rfl)
  rw [lg_entry_eq]
  generalize (lg_sl ([.ref oD]) ++ List.replicate (4 - (lg_sl ([.ref oD])).length) Slot.unset).toArray = ls at hl ⊢
  have hl : lv_has ls 4 [(0, .ref oD)] := hl
  refine lv_aload_n hx hb dX4_restore_0 rfl (lv_at hl 0 rfl) ?_
  refine lv_iconst (v := nI 0) hx hb dX4_restore_1 (by decide) ?_
  refine va_put (D := (dC, dI)) (ci := 4) (v := .int (nI 0)) (ty := .int) (C := RX4) (T := TX4) (N := 21) hx hb hts (by decide +kernel) tyX4 tyX4_ok nmX4 hown hK hP hD hS 0 rfl rfl 0 (by decide) (hts (.fieldLink RX4 32 "GlulxHeadsModel" "thrown" "I") (by decide +kernel)) (fun _ h9 => h9) rfl (by decide +kernel) rfl rfl (Nat.le_of_ble_eq_true rfl) dX4_restore_2 (fun H locs hP hD hS => ?_)
  have hP : va_P (dC, dI) vwCl [(oD, .inr (4, [.int (nI 0), .ref dF, .int (nI len), .int (nI 1), .ref dH, .int (nI sr), .ref dL, .int (nI en), .int (nI ram), .int (nI mz), .ref dM, .int (nI hp), .int (nI cn), .ref dP, .ref dS, .int (nI fk), .int fp, .int (nI ka), .int (nI kn), .int (nI 0), .ref dK]))] H := hP
  have hD : va_D A [(oD, .inr (4, [.int (nI 0), .ref dF, .int (nI len), .int (nI 1), .ref dH, .int (nI sr), .ref dL, .int (nI en), .int (nI ram), .int (nI mz), .ref dM, .int (nI hp), .int (nI cn), .ref dP, .ref dS, .int (nI fk), .int fp, .int (nI ka), .int (nI kn), .int (nI 0), .ref dK]))] := hD
  refine lv_aload_n hx hb dX4_restore_5 rfl (lv_at hl 0 rfl) ?_
  refine va_get (D := (dC, dI)) (ci := 4) (v := .int (nI 1)) (C := RX4) (T := TX4) (N := 21) hx hb hts (by decide +kernel) hown hK hP 0 rfl rfl 3 (by decide) (hts (.fieldLink RX4 76 "GlulxHeadsModel" "has" "Z") (by decide +kernel)) (fun _ h9 => h9) rfl dX4_restore_6 ?_
  refine wx_if_eq (tgt := 19) hx hb dX4_restore_9 (by decide) (by omega) (fun c_1 => absurd c_1 (by decide)) (fun c_1 => ?_)
  refine lv_aload_n hx hb dX4_restore_12 rfl (lv_at hl 0 rfl) ?_
  refine va_get (D := (dC, dI)) (ci := 4) (v := .int (nI 0)) (C := RX4) (T := TX4) (N := 21) hx hb hts (by decide +kernel) hown hK hP 0 rfl rfl 19 (by decide) (hts (.fieldLink RX4 110 "GlulxHeadsModel" "states" "I") (by decide +kernel)) (fun _ h9 => h9) rfl dX4_restore_13 ?_
  refine wx_if_ne (tgt := 22) hx hb dX4_restore_16 (by decide) (by omega) (fun c_2 => absurd c_2 (by decide)) (fun c_2 => ?_)
  refine lv_bipush (v := (-3)) hx hb dX4_restore_19 (by decide) ?_
  have hP9 := hP.sub (ws' := [(oD, .inr (4, [.int (nI 0), .ref dF, .int (nI len), .int (nI 1), .ref dH, .int (nI sr), .ref dL, .int (nI en), .int (nI ram), .int (nI mz), .ref dM, .int (nI hp), .int (nI cn), .ref dP, .ref dS, .int (nI fk), .int fp, .int (nI ka), .int (nI kn), .int (nI 0), .ref dK]))]) [0] rfl
  have hD9 := hD.sub (ws' := [(oD, .inr (4, [.int (nI 0), .ref dF, .int (nI len), .int (nI 1), .ref dH, .int (nI sr), .ref dL, .int (nI en), .int (nI ram), .int (nI mz), .ref dM, .int (nI hp), .int (nI cn), .ref dP, .ref dS, .int (nI fk), .int fp, .int (nI ka), .int (nI kn), .int (nI 0), .ref dK]))]) [0] (by decide) rfl
  exact W.iret (v := (-3)) hx hb hr (fun t ht hW => ⟨⟨(-3), (), rfl, rfl, by rw [ht]; exact hP9, hD9⟩, hS.F ht⟩) hS.2.2 dX4_restore_21
set_option maxHeartbeats 1000000 in
set_option maxRecDepth 100000 in
theorem c_X4_restore_M (l : Launch) (dC : Nat → ClassId) (dI : Nat → Nat → Nat) (cB cI cJ : ClassId) (sz : Nat) (oD : Nat) (th : Nat) (dF : Nat) (len : Nat) (dH : Nat) (sr : Nat) (dL : Nat) (en : Nat) (ram : Nat) (mz : Nat) (dM : Nat) (hp : Nat) (cn : Nat) (dP : Nat) (dS : Nat) (fk : Nat) (fp : Int32) (ka : Nat) (kn : Nat) (sv : Nat) (dK : Nat) (dm : Nat → Int32) (dp : Nat → Int32) (ds : Nat → Int32) (dk : Nat → Int32) (mem : Nat → Nat) (mza : Nat) (mema : Nat → Nat) (cna : Nat) (pla : Nat → Nat) (lla : Nat → Nat) (hpa : Nat) (hmz : mz ≤ 8192) (hm : gOk dm mz mem) (hmem : ∀ j, mem j < 256) (hka : ka ≤ 8192) (hkn : kn ≤ 8192) (hsv : 1 ≤ sv) (hsv2 : sv ≤ 2) (hkk : kOk dk (sv - 1) mza mema cna pla lla hpa) (hmza : mza ≤ 8192) (hcna : cna ≤ 16) : Met l yX4_restore wsX4_restore ({ frames := 1, cells := 0, slots := 0, locals := 23 }) (va_Pc [.ref oD] (wPre dC dI cB cI cJ sz [(oD, .inr (4, [.int (nI th), .ref dF, .int (nI len), .int (nI 1), .ref dH, .int (nI sr), .ref dL, .int (nI en), .int (nI ram), .int (nI mz), .ref dM, .int (nI hp), .int (nI cn), .ref dP, .ref dS, .int (nI fk), .int fp, .int (nI ka), .int (nI kn), .int (nI sv), .ref dK])), (dM, .inl (cI, 8192, .inl dm)), (dP, .inl (cI, 16, .inl dp)), (dS, .inl (cI, 16, .inl ds)), (dK, .inl (cI, 16464, .inl dk))])) (va_Qi (fun (r : Int32) (u : (Nat → Int32) × (Nat → Int32) × (Nat → Int32)) => r = nI mza ∧ gOk u.1 mza (keepM mem mz mema mza ka (ka + kn)) ∧ bOk u.2.1 cna pla ∧ bOk u.2.2 cna lla) (fun (u : (Nat → Int32) × (Nat → Int32) × (Nat → Int32)) => wPost dC dI (va_A [(oD, .inr (4, [.int (nI th), .ref dF, .int (nI len), .int (nI 1), .ref dH, .int (nI sr), .ref dL, .int (nI en), .int (nI ram), .int (nI mz), .ref dM, .int (nI hp), .int (nI cn), .ref dP, .ref dS, .int (nI fk), .int fp, .int (nI ka), .int (nI kn), .int (nI sv), .ref dK])), (dM, .inl (cI, 8192, .inl dm)), (dP, .inl (cI, 16, .inl dp)), (dS, .inl (cI, 16, .inl ds)), (dK, .inl (cI, 16464, .inl dk))] sz) [(oD, .inr (4, [.int (nI 0), .ref dF, .int (nI len), .int (nI 1), .ref dH, .int (nI sr), .ref dL, .int (nI en), .int (nI ram), .int (nI mza), .ref dM, .int (nI hpa), .int (nI cna), .ref dP, .ref dS, .int (nI fk), .int fp, .int (nI ka), .int (nI kn), .int (nI (sv - 1)), .ref dK])), (dM, .inl (cI, 8192, .inl u.1)), (dP, .inl (cI, 16, .inl u.2.1)), (dS, .inl (cI, 16, .inl u.2.2)), (dK, .inl (cI, 16464, .inl dk))]) (va_A [(oD, .inr (4, [.int (nI th), .ref dF, .int (nI len), .int (nI 1), .ref dH, .int (nI sr), .ref dL, .int (nI en), .int (nI ram), .int (nI mz), .ref dM, .int (nI hp), .int (nI cn), .ref dP, .ref dS, .int (nI fk), .int fp, .int (nI ka), .int (nI kn), .int (nI sv), .ref dK])), (dM, .inl (cI, 8192, .inl dm)), (dP, .inl (cI, 16, .inl dp)), (dS, .inl (cI, 16, .inl ds)), (dK, .inl (cI, 16464, .inl dk))] sz)) 0 0 (va_A [(oD, .inr (4, [.int (nI th), .ref dF, .int (nI len), .int (nI 1), .ref dH, .int (nI sr), .ref dL, .int (nI en), .int (nI ram), .int (nI mz), .ref dM, .int (nI hp), .int (nI cn), .ref dP, .ref dS, .int (nI fk), .int fp, .int (nI ka), .int (nI kn), .int (nI sv), .ref dK])), (dM, .inl (cI, 8192, .inl dm)), (dP, .inl (cI, 16, .inl dp)), (dS, .inl (cI, 16, .inl ds)), (dK, .inl (cI, 16464, .inl dk))] sz) := by
  refine Met.ofW (cc := cX4_restore) (maxL := 4) (ret := (some .int)) (by decide) rfl ?_
  intro p e s m args below meth c s₁ B hml hv
  obtain ⟨rfl, hsz, hP, hK, hD0, hN⟩ := hv
  have hx := B.exec
  have hb := B.bytes
  have hr := B.returns
  have hts := atoms_spec (ws := wsX4_restore) B.pre
  have hown : s.vm.findClass RX4 = some m.cls := findClass_of_methodNamed B.named
  have hlocks := B.notSynchronized
  subst hsz
  have hD := hD0.self (sz := s.heap.size)
  generalize hAe : va_A [(oD, .inr (4, [.int (nI th), .ref dF, .int (nI len), .int (nI 1), .ref dH, .int (nI sr), .ref dL, .int (nI en), .int (nI ram), .int (nI mz), .ref dM, .int (nI hp), .int (nI cn), .ref dP, .ref dS, .int (nI fk), .int fp, .int (nI ka), .int (nI kn), .int (nI sv), .ref dK])), (dM, .inl (cI, 8192, .inl dm)), (dP, .inl (cI, 16, .inl dp)), (dS, .inl (cI, 16, .inl ds)), (dK, .inl (cI, 16464, .inl dk))] s.heap.size = A at hD ⊢
  have hA : ∀ q : Nat, s.heap.size ≤ q → A q := fun q h => by rw [← hAe]; exact Or.inr h
  have hS : va_S A s.heap s.heap [] := va_S.rf
  have hP : va_P (dC, dI) vwCl [(oD, .inr (4, [.int (nI th), .ref dF, .int (nI len), .int (nI 1), .ref dH, .int (nI sr), .ref dL, .int (nI en), .int (nI ram), .int (nI mz), .ref dM, .int (nI hp), .int (nI cn), .ref dP, .ref dS, .int (nI fk), .int fp, .int (nI ka), .int (nI kn), .int (nI sv), .ref dK])), (dM, .inl (cI, 8192, .inl dm)), (dP, .inl (cI, 16, .inl dp)), (dS, .inl (cI, 16, .inl ds)), (dK, .inl (cI, 16464, .inl dk))] s.heap := hP
  have hl := lv_entry ([.ref oD]) (n := 4) (Nat.le_of_ble_eq_true rfl)
  rw [lg_entry_eq]
  generalize (lg_sl ([.ref oD]) ++ List.replicate (4 - (lg_sl ([.ref oD])).length) Slot.unset).toArray = ls at hl ⊢
  have hl : lv_has ls 4 [(0, .ref oD)] := hl
  refine lv_aload_n hx hb dX4_restore_0 rfl (lv_at hl 0 rfl) ?_
  refine lv_iconst (v := nI 0) hx hb dX4_restore_1 (by decide) ?_
  refine va_put (D := (dC, dI)) (ci := 4) (v := .int (nI 0)) (ty := .int) (C := RX4) (T := TX4) (N := 21) hx hb hts (by decide +kernel) tyX4 tyX4_ok nmX4 hown hK hP hD hS 0 rfl rfl 0 (by decide) (hts (.fieldLink RX4 32 "GlulxHeadsModel" "thrown" "I") (by decide +kernel)) (fun _ h9 => h9) rfl (by decide +kernel) rfl rfl (Nat.le_of_ble_eq_true rfl) dX4_restore_2 (fun H locs hP hD hS => ?_)
  have hP : va_P (dC, dI) vwCl [(oD, .inr (4, [.int (nI 0), .ref dF, .int (nI len), .int (nI 1), .ref dH, .int (nI sr), .ref dL, .int (nI en), .int (nI ram), .int (nI mz), .ref dM, .int (nI hp), .int (nI cn), .ref dP, .ref dS, .int (nI fk), .int fp, .int (nI ka), .int (nI kn), .int (nI sv), .ref dK])), (dM, .inl (cI, 8192, .inl dm)), (dP, .inl (cI, 16, .inl dp)), (dS, .inl (cI, 16, .inl ds)), (dK, .inl (cI, 16464, .inl dk))] H := hP
  have hD : va_D A [(oD, .inr (4, [.int (nI 0), .ref dF, .int (nI len), .int (nI 1), .ref dH, .int (nI sr), .ref dL, .int (nI en), .int (nI ram), .int (nI mz), .ref dM, .int (nI hp), .int (nI cn), .ref dP, .ref dS, .int (nI fk), .int fp, .int (nI ka), .int (nI kn), .int (nI sv), .ref dK])), (dM, .inl (cI, 8192, .inl dm)), (dP, .inl (cI, 16, .inl dp)), (dS, .inl (cI, 16, .inl ds)), (dK, .inl (cI, 16464, .inl dk))] := hD
  refine lv_aload_n hx hb dX4_restore_5 rfl (lv_at hl 0 rfl) ?_
  refine va_get (D := (dC, dI)) (ci := 4) (v := .int (nI 1)) (C := RX4) (T := TX4) (N := 21) hx hb hts (by decide +kernel) hown hK hP 0 rfl rfl 3 (by decide) (hts (.fieldLink RX4 76 "GlulxHeadsModel" "has" "Z") (by decide +kernel)) (fun _ h9 => h9) rfl dX4_restore_6 ?_
  refine wx_if_eq (tgt := 19) hx hb dX4_restore_9 (by decide) (by first | omega | (split <;> omega)) (fun c_1 => absurd c_1 (by decide)) (fun c_1 => ?_)
  refine lv_aload_n hx hb dX4_restore_12 rfl (lv_at hl 0 rfl) ?_
  refine va_get (D := (dC, dI)) (ci := 4) (v := .int (nI sv)) (C := RX4) (T := TX4) (N := 21) hx hb hts (by decide +kernel) hown hK hP 0 rfl rfl 19 (by decide) (hts (.fieldLink RX4 110 "GlulxHeadsModel" "states" "I") (by decide +kernel)) (fun _ h9 => h9) rfl dX4_restore_13 ?_
  refine wx_if_ne (tgt := 22) hx hb dX4_restore_16 (by decide) (by first | omega | (split <;> omega)) (fun c_2 => ?_) (fun c_2 => absurd c_2 (by omega))
  refine lv_aload_n hx hb dX4_restore_22 rfl (lv_at hl 0 rfl) ?_
  refine lv_dup hx hb dX4_restore_23 rfl ?_
  refine va_get (D := (dC, dI)) (ci := 4) (v := .int (nI sv)) (C := RX4) (T := TX4) (N := 21) hx hb hts (by decide +kernel) hown hK hP 0 rfl rfl 19 (by decide) (hts (.fieldLink RX4 110 "GlulxHeadsModel" "states" "I") (by decide +kernel)) (fun _ h9 => h9) rfl dX4_restore_24 ?_
  refine lv_iconst (v := nI 1) hx hb dX4_restore_27 (by decide) ?_
  refine wx_isub hx hb dX4_restore_28 (by first | omega | (split <;> omega)) ?_
  refine va_put (D := (dC, dI)) (ci := 4) (v := .int (nI (sv - 1))) (ty := .int) (C := RX4) (T := TX4) (N := 21) hx hb hts (by decide +kernel) tyX4 tyX4_ok nmX4 hown hK hP hD hS 0 rfl rfl 19 (by decide) (hts (.fieldLink RX4 110 "GlulxHeadsModel" "states" "I") (by decide +kernel)) (fun _ h9 => h9) rfl (by decide +kernel) rfl rfl (Nat.le_of_ble_eq_true rfl) dX4_restore_29 (fun H locs hP hD hS => ?_)
  have hP : va_P (dC, dI) vwCl [(oD, .inr (4, [.int (nI 0), .ref dF, .int (nI len), .int (nI 1), .ref dH, .int (nI sr), .ref dL, .int (nI en), .int (nI ram), .int (nI mz), .ref dM, .int (nI hp), .int (nI cn), .ref dP, .ref dS, .int (nI fk), .int fp, .int (nI ka), .int (nI kn), .int (nI (sv - 1)), .ref dK])), (dM, .inl (cI, 8192, .inl dm)), (dP, .inl (cI, 16, .inl dp)), (dS, .inl (cI, 16, .inl ds)), (dK, .inl (cI, 16464, .inl dk))] H := hP
  have hD : va_D A [(oD, .inr (4, [.int (nI 0), .ref dF, .int (nI len), .int (nI 1), .ref dH, .int (nI sr), .ref dL, .int (nI en), .int (nI ram), .int (nI mz), .ref dM, .int (nI hp), .int (nI cn), .ref dP, .ref dS, .int (nI fk), .int fp, .int (nI ka), .int (nI kn), .int (nI (sv - 1)), .ref dK])), (dM, .inl (cI, 8192, .inl dm)), (dP, .inl (cI, 16, .inl dp)), (dS, .inl (cI, 16, .inl ds)), (dK, .inl (cI, 16464, .inl dk))] := hD
  refine lv_sipush (v := nI 8232) hx hb dX4_restore_32 (by decide) ?_
  refine lv_aload_n hx hb dX4_restore_35 rfl (lv_at hl 0 rfl) ?_
  refine va_get (D := (dC, dI)) (ci := 4) (v := .int (nI (sv - 1))) (C := RX4) (T := TX4) (N := 21) hx hb hts (by decide +kernel) hown hK hP 0 rfl rfl 19 (by decide) (hts (.fieldLink RX4 110 "GlulxHeadsModel" "states" "I") (by decide +kernel)) (fun _ h9 => h9) rfl dX4_restore_36 ?_
  refine wx_imul hx hb dX4_restore_39 ?_
  refine lv_istore_n (lv' := [(1, .int (nI (8232 * (sv - 1)))), (0, .ref oD)]) hx hb dX4_restore_40 rfl hl (by decide) rfl (fun ls hl => ?_)
  refine lv_aload_n hx hb dX4_restore_41 rfl (lv_at hl 1 rfl) ?_
  refine va_get (D := (dC, dI)) (ci := 4) (v := .ref dK) (C := RX4) (T := TX4) (N := 21) hx hb hts (by decide +kernel) hown hK hP 0 rfl rfl 20 (by decide) (hts (.fieldLink RX4 29 "GlulxHeadsModel" "kept" "[I") (by decide +kernel)) (fun _ h9 => h9) rfl dX4_restore_42 ?_
  refine lv_iload_n hx hb dX4_restore_45 rfl (lv_at hl 0 rfl) ?_
  refine lv_sipush (v := nI 8192) hx hb dX4_restore_46 (by decide) ?_
  refine wx_iadd hx hb dX4_restore_49 ?_
  refine wx_iald hx hb hK hP 4 1 rfl rfl (by first | omega | (split <;> omega)) (by decide) dX4_restore_50 ?_
  refine wx_top (hkk.2.1) ?_
  refine lv_istore_n (lv' := [(2, .int (nI mza)), (1, .int (nI (8232 * (sv - 1)))), (0, .ref oD)]) hx hb dX4_restore_51 rfl hl (by decide) rfl (fun ls hl => ?_)
  refine lv_iconst (v := nI 0) hx hb dX4_restore_52 (by decide) ?_
  refine lv_istore_n (lv' := [(3, .int (nI 0)), (2, .int (nI mza)), (1, .int (nI (8232 * (sv - 1)))), (0, .ref oD)]) hx hb dX4_restore_53 rfl hl (by decide) rfl (fun ls hl => ?_)
  refine wx_loop (σ := Nat × (Nat → Int32)) (fun xq9 => mza - xq9.1) (fun xq9 H locs ls => (xq9.1 ≤ mza) ∧ (∀ q, q < 8192 → (q < xq9.1 → q < mza → xq9.2 q = nI (keepM mem mz mema mza ka (ka + kn) q)) ∧ (xq9.1 ≤ q → q < mz → xq9.2 q = nI (mem q))) ∧ va_P (dC, dI) vwCl [(oD, .inr (4, [.int (nI 0), .ref dF, .int (nI len), .int (nI 1), .ref dH, .int (nI sr), .ref dL, .int (nI en), .int (nI ram), .int (nI mz), .ref dM, .int (nI hp), .int (nI cn), .ref dP, .ref dS, .int (nI fk), .int fp, .int (nI ka), .int (nI kn), .int (nI (sv - 1)), .ref dK])), (dM, .inl (cI, 8192, .inl xq9.2)), (dP, .inl (cI, 16, .inl dp)), (dS, .inl (cI, 16, .inl ds)), (dK, .inl (cI, 16464, .inl dk))] H ∧ va_D A [(oD, .inr (4, [.int (nI 0), .ref dF, .int (nI len), .int (nI 1), .ref dH, .int (nI sr), .ref dL, .int (nI en), .int (nI ram), .int (nI mz), .ref dM, .int (nI hp), .int (nI cn), .ref dP, .ref dS, .int (nI fk), .int fp, .int (nI ka), .int (nI kn), .int (nI (sv - 1)), .ref dK])), (dM, .inl (cI, 8192, .inl xq9.2)), (dP, .inl (cI, 16, .inl dp)), (dS, .inl (cI, 16, .inl ds)), (dK, .inl (cI, 16464, .inl dk))] ∧ va_S A s.heap H locs ∧ lv_has ls 4 [(0, .ref oD), (1, .int (nI (8232 * (sv - 1)))), (2, .int (nI mza)), (3, .int (nI xq9.1))]) ?_ (0, dm) _ _ _ ⟨by first | omega | (split <;> omega), fun q hq => ⟨fun z => absurd z (Nat.not_lt_zero _), fun _ z => hm q z⟩, hP.sub [0, 1, 2, 3, 4] rfl, hD.sub [0, 1, 2, 3, 4] (by decide) rfl, hS, lv_sub hl [3, 2, 1, 0] rfl⟩
  rintro ⟨i, dm3⟩ H locs ls ⟨hi, hg, hP, hD, hS, hl⟩ ih
  have hi : i ≤ mza := hi
  have hg : ∀ q, q < 8192 → (q < i → q < mza → dm3 q = nI (keepM mem mz mema mza ka (ka + kn) q)) ∧ (i ≤ q → q < mz → dm3 q = nI (mem q)) := hg
  have hP : va_P (dC, dI) vwCl [(oD, .inr (4, [.int (nI 0), .ref dF, .int (nI len), .int (nI 1), .ref dH, .int (nI sr), .ref dL, .int (nI en), .int (nI ram), .int (nI mz), .ref dM, .int (nI hp), .int (nI cn), .ref dP, .ref dS, .int (nI fk), .int fp, .int (nI ka), .int (nI kn), .int (nI (sv - 1)), .ref dK])), (dM, .inl (cI, 8192, .inl dm3)), (dP, .inl (cI, 16, .inl dp)), (dS, .inl (cI, 16, .inl ds)), (dK, .inl (cI, 16464, .inl dk))] H := hP
  have hD : va_D A [(oD, .inr (4, [.int (nI 0), .ref dF, .int (nI len), .int (nI 1), .ref dH, .int (nI sr), .ref dL, .int (nI en), .int (nI ram), .int (nI mz), .ref dM, .int (nI hp), .int (nI cn), .ref dP, .ref dS, .int (nI fk), .int fp, .int (nI ka), .int (nI kn), .int (nI (sv - 1)), .ref dK])), (dM, .inl (cI, 8192, .inl dm3)), (dP, .inl (cI, 16, .inl dp)), (dS, .inl (cI, 16, .inl ds)), (dK, .inl (cI, 16464, .inl dk))] := hD
  have hl : lv_has ls 4 [(0, .ref oD), (1, .int (nI (8232 * (sv - 1)))), (2, .int (nI mza)), (3, .int (nI i))] := hl
  refine lv_iload_n hx hb dX4_restore_54 rfl (lv_at hl 3 rfl) ?_
  refine lv_iload_n hx hb dX4_restore_55 rfl (lv_at hl 2 rfl) ?_
  refine wx_icmp_ge (tgt := 92) hx hb dX4_restore_56 (by decide) (by first | omega | (split <;> omega)) (by first | omega | (split <;> omega)) (fun c_3 => ?_) (fun c_3 => ?_)
  · skip
    refine lv_aload_n hx hb dX4_restore_92 rfl (lv_at hl 0 rfl) ?_
    refine lv_iload_n hx hb dX4_restore_93 rfl (lv_at hl 2 rfl) ?_
    refine va_put (D := (dC, dI)) (ci := 4) (v := .int (nI mza)) (ty := .int) (C := RX4) (T := TX4) (N := 21) hx hb hts (by decide +kernel) tyX4 tyX4_ok nmX4 hown hK hP hD hS 0 rfl rfl 9 (by decide) (hts (.fieldLink RX4 89 "GlulxHeadsModel" "m" "I") (by decide +kernel)) (fun _ h9 => h9) rfl (by decide +kernel) rfl rfl (Nat.le_of_ble_eq_true rfl) dX4_restore_94 (fun H locs hP hD hS => ?_)
    have hP : va_P (dC, dI) vwCl [(oD, .inr (4, [.int (nI 0), .ref dF, .int (nI len), .int (nI 1), .ref dH, .int (nI sr), .ref dL, .int (nI en), .int (nI ram), .int (nI mza), .ref dM, .int (nI hp), .int (nI cn), .ref dP, .ref dS, .int (nI fk), .int fp, .int (nI ka), .int (nI kn), .int (nI (sv - 1)), .ref dK])), (dM, .inl (cI, 8192, .inl dm3)), (dP, .inl (cI, 16, .inl dp)), (dS, .inl (cI, 16, .inl ds)), (dK, .inl (cI, 16464, .inl dk))] H := hP
    have hD : va_D A [(oD, .inr (4, [.int (nI 0), .ref dF, .int (nI len), .int (nI 1), .ref dH, .int (nI sr), .ref dL, .int (nI en), .int (nI ram), .int (nI mza), .ref dM, .int (nI hp), .int (nI cn), .ref dP, .ref dS, .int (nI fk), .int fp, .int (nI ka), .int (nI kn), .int (nI (sv - 1)), .ref dK])), (dM, .inl (cI, 8192, .inl dm3)), (dP, .inl (cI, 16, .inl dp)), (dS, .inl (cI, 16, .inl ds)), (dK, .inl (cI, 16464, .inl dk))] := hD
    refine lv_aload_n hx hb dX4_restore_97 rfl (lv_at hl 0 rfl) ?_
    refine lv_aload_n hx hb dX4_restore_98 rfl (lv_at hl 0 rfl) ?_
    refine va_get (D := (dC, dI)) (ci := 4) (v := .ref dK) (C := RX4) (T := TX4) (N := 21) hx hb hts (by decide +kernel) hown hK hP 0 rfl rfl 20 (by decide) (hts (.fieldLink RX4 29 "GlulxHeadsModel" "kept" "[I") (by decide +kernel)) (fun _ h9 => h9) rfl dX4_restore_99 ?_
    refine lv_iload_n hx hb dX4_restore_102 rfl (lv_at hl 1 rfl) ?_
    refine lv_sipush (v := nI 8193) hx hb dX4_restore_103 (by decide) ?_
    refine wx_iadd hx hb dX4_restore_106 ?_
    refine wx_iald hx hb hK hP 4 1 rfl rfl (by first | omega | (split <;> omega)) (by decide) dX4_restore_107 ?_
    refine wx_top (hkk.2.2.1) ?_
    refine va_put (D := (dC, dI)) (ci := 4) (v := .int (nI hpa)) (ty := .int) (C := RX4) (T := TX4) (N := 21) hx hb hts (by decide +kernel) tyX4 tyX4_ok nmX4 hown hK hP hD hS 0 rfl rfl 11 (by decide) (hts (.fieldLink RX4 92 "GlulxHeadsModel" "heap" "I") (by decide +kernel)) (fun _ h9 => h9) rfl (by decide +kernel) rfl rfl (Nat.le_of_ble_eq_true rfl) dX4_restore_108 (fun H locs hP hD hS => ?_)
    have hP : va_P (dC, dI) vwCl [(oD, .inr (4, [.int (nI 0), .ref dF, .int (nI len), .int (nI 1), .ref dH, .int (nI sr), .ref dL, .int (nI en), .int (nI ram), .int (nI mza), .ref dM, .int (nI hpa), .int (nI cn), .ref dP, .ref dS, .int (nI fk), .int fp, .int (nI ka), .int (nI kn), .int (nI (sv - 1)), .ref dK])), (dM, .inl (cI, 8192, .inl dm3)), (dP, .inl (cI, 16, .inl dp)), (dS, .inl (cI, 16, .inl ds)), (dK, .inl (cI, 16464, .inl dk))] H := hP
    have hD : va_D A [(oD, .inr (4, [.int (nI 0), .ref dF, .int (nI len), .int (nI 1), .ref dH, .int (nI sr), .ref dL, .int (nI en), .int (nI ram), .int (nI mza), .ref dM, .int (nI hpa), .int (nI cn), .ref dP, .ref dS, .int (nI fk), .int fp, .int (nI ka), .int (nI kn), .int (nI (sv - 1)), .ref dK])), (dM, .inl (cI, 8192, .inl dm3)), (dP, .inl (cI, 16, .inl dp)), (dS, .inl (cI, 16, .inl ds)), (dK, .inl (cI, 16464, .inl dk))] := hD
    refine lv_aload_n hx hb dX4_restore_111 rfl (lv_at hl 0 rfl) ?_
    refine lv_aload_n hx hb dX4_restore_112 rfl (lv_at hl 0 rfl) ?_
    refine va_get (D := (dC, dI)) (ci := 4) (v := .ref dK) (C := RX4) (T := TX4) (N := 21) hx hb hts (by decide +kernel) hown hK hP 0 rfl rfl 20 (by decide) (hts (.fieldLink RX4 29 "GlulxHeadsModel" "kept" "[I") (by decide +kernel)) (fun _ h9 => h9) rfl dX4_restore_113 ?_
    refine lv_iload_n hx hb dX4_restore_116 rfl (lv_at hl 1 rfl) ?_
    refine lv_sipush (v := nI 8194) hx hb dX4_restore_117 (by decide) ?_
    refine wx_iadd hx hb dX4_restore_120 ?_
    refine wx_iald hx hb hK hP 4 1 rfl rfl (by first | omega | (split <;> omega)) (by decide) dX4_restore_121 ?_
    refine wx_top (hkk.2.2.2.1) ?_
    refine va_put (D := (dC, dI)) (ci := 4) (v := .int (nI cna)) (ty := .int) (C := RX4) (T := TX4) (N := 21) hx hb hts (by decide +kernel) tyX4 tyX4_ok nmX4 hown hK hP hD hS 0 rfl rfl 12 (by decide) (hts (.fieldLink RX4 95 "GlulxHeadsModel" "blocks" "I") (by decide +kernel)) (fun _ h9 => h9) rfl (by decide +kernel) rfl rfl (Nat.le_of_ble_eq_true rfl) dX4_restore_122 (fun H locs hP hD hS => ?_)
    have hP : va_P (dC, dI) vwCl [(oD, .inr (4, [.int (nI 0), .ref dF, .int (nI len), .int (nI 1), .ref dH, .int (nI sr), .ref dL, .int (nI en), .int (nI ram), .int (nI mza), .ref dM, .int (nI hpa), .int (nI cna), .ref dP, .ref dS, .int (nI fk), .int fp, .int (nI ka), .int (nI kn), .int (nI (sv - 1)), .ref dK])), (dM, .inl (cI, 8192, .inl dm3)), (dP, .inl (cI, 16, .inl dp)), (dS, .inl (cI, 16, .inl ds)), (dK, .inl (cI, 16464, .inl dk))] H := hP
    have hD : va_D A [(oD, .inr (4, [.int (nI 0), .ref dF, .int (nI len), .int (nI 1), .ref dH, .int (nI sr), .ref dL, .int (nI en), .int (nI ram), .int (nI mza), .ref dM, .int (nI hpa), .int (nI cna), .ref dP, .ref dS, .int (nI fk), .int fp, .int (nI ka), .int (nI kn), .int (nI (sv - 1)), .ref dK])), (dM, .inl (cI, 8192, .inl dm3)), (dP, .inl (cI, 16, .inl dp)), (dS, .inl (cI, 16, .inl ds)), (dK, .inl (cI, 16464, .inl dk))] := hD
    refine lv_iconst (v := nI 0) hx hb dX4_restore_125 (by decide) ?_
    refine lv_istore_n (lv' := [(3, .int (nI 0)), (0, .ref oD), (1, .int (nI (8232 * (sv - 1)))), (2, .int (nI mza))]) hx hb dX4_restore_126 rfl hl (by decide) rfl (fun ls hl => ?_)
    refine wx_loop (σ := Nat × (Nat → Int32) × (Nat → Int32)) (fun xq9 => cna - xq9.1) (fun xq9 H locs ls => (xq9.1 ≤ cna) ∧ (bOk xq9.2.1 xq9.1 pla) ∧ (bOk xq9.2.2 xq9.1 lla) ∧ va_P (dC, dI) vwCl [(oD, .inr (4, [.int (nI 0), .ref dF, .int (nI len), .int (nI 1), .ref dH, .int (nI sr), .ref dL, .int (nI en), .int (nI ram), .int (nI mza), .ref dM, .int (nI hpa), .int (nI cna), .ref dP, .ref dS, .int (nI fk), .int fp, .int (nI ka), .int (nI kn), .int (nI (sv - 1)), .ref dK])), (dM, .inl (cI, 8192, .inl dm3)), (dP, .inl (cI, 16, .inl xq9.2.1)), (dS, .inl (cI, 16, .inl xq9.2.2)), (dK, .inl (cI, 16464, .inl dk))] H ∧ va_D A [(oD, .inr (4, [.int (nI 0), .ref dF, .int (nI len), .int (nI 1), .ref dH, .int (nI sr), .ref dL, .int (nI en), .int (nI ram), .int (nI mza), .ref dM, .int (nI hpa), .int (nI cna), .ref dP, .ref dS, .int (nI fk), .int fp, .int (nI ka), .int (nI kn), .int (nI (sv - 1)), .ref dK])), (dM, .inl (cI, 8192, .inl dm3)), (dP, .inl (cI, 16, .inl xq9.2.1)), (dS, .inl (cI, 16, .inl xq9.2.2)), (dK, .inl (cI, 16464, .inl dk))] ∧ va_S A s.heap H locs ∧ lv_has ls 4 [(0, .ref oD), (1, .int (nI (8232 * (sv - 1)))), (3, .int (nI xq9.1))]) ?_ (0, dp, ds) _ _ _ ⟨by first | omega | (split <;> omega), fun j hj => absurd hj (Nat.not_lt_zero _), fun j hj => absurd hj (Nat.not_lt_zero _), hP.sub [0, 1, 2, 3, 4] rfl, hD.sub [0, 1, 2, 3, 4] (by decide) rfl, hS, lv_sub hl [1, 2, 0] rfl⟩
    rintro ⟨k, P3, L3⟩ H locs ls ⟨hk1, hP3, hL3, hP, hD, hS, hl⟩ ih
    have hk1 : k ≤ cna := hk1
    have hP3 : bOk P3 k pla := hP3
    have hL3 : bOk L3 k lla := hL3
    have hP : va_P (dC, dI) vwCl [(oD, .inr (4, [.int (nI 0), .ref dF, .int (nI len), .int (nI 1), .ref dH, .int (nI sr), .ref dL, .int (nI en), .int (nI ram), .int (nI mza), .ref dM, .int (nI hpa), .int (nI cna), .ref dP, .ref dS, .int (nI fk), .int fp, .int (nI ka), .int (nI kn), .int (nI (sv - 1)), .ref dK])), (dM, .inl (cI, 8192, .inl dm3)), (dP, .inl (cI, 16, .inl P3)), (dS, .inl (cI, 16, .inl L3)), (dK, .inl (cI, 16464, .inl dk))] H := hP
    have hD : va_D A [(oD, .inr (4, [.int (nI 0), .ref dF, .int (nI len), .int (nI 1), .ref dH, .int (nI sr), .ref dL, .int (nI en), .int (nI ram), .int (nI mza), .ref dM, .int (nI hpa), .int (nI cna), .ref dP, .ref dS, .int (nI fk), .int fp, .int (nI ka), .int (nI kn), .int (nI (sv - 1)), .ref dK])), (dM, .inl (cI, 8192, .inl dm3)), (dP, .inl (cI, 16, .inl P3)), (dS, .inl (cI, 16, .inl L3)), (dK, .inl (cI, 16464, .inl dk))] := hD
    have hl : lv_has ls 4 [(0, .ref oD), (1, .int (nI (8232 * (sv - 1)))), (3, .int (nI k))] := hl
    refine lv_iload_n hx hb dX4_restore_127 rfl (lv_at hl 2 rfl) ?_
    refine lv_aload_n hx hb dX4_restore_128 rfl (lv_at hl 0 rfl) ?_
    refine va_get (D := (dC, dI)) (ci := 4) (v := .int (nI cna)) (C := RX4) (T := TX4) (N := 21) hx hb hts (by decide +kernel) hown hK hP 0 rfl rfl 12 (by decide) (hts (.fieldLink RX4 95 "GlulxHeadsModel" "blocks" "I") (by decide +kernel)) (fun _ h9 => h9) rfl dX4_restore_129 ?_
    refine wx_icmp_ge (tgt := 181) hx hb dX4_restore_132 (by decide) (by first | omega | (split <;> omega)) (by first | omega | (split <;> omega)) (fun c_4 => ?_) (fun c_4 => ?_)
    · skip
      refine lv_aload_n hx hb dX4_restore_181 rfl (lv_at hl 0 rfl) ?_
      refine va_get (D := (dC, dI)) (ci := 4) (v := .int (nI mza)) (C := RX4) (T := TX4) (N := 21) hx hb hts (by decide +kernel) hown hK hP 0 rfl rfl 9 (by decide) (hts (.fieldLink RX4 89 "GlulxHeadsModel" "m" "I") (by decide +kernel)) (fun _ h9 => h9) rfl dX4_restore_182 ?_
      have hP9 := hP.sub (ws' := [(oD, .inr (4, [.int (nI 0), .ref dF, .int (nI len), .int (nI 1), .ref dH, .int (nI sr), .ref dL, .int (nI en), .int (nI ram), .int (nI mza), .ref dM, .int (nI hpa), .int (nI cna), .ref dP, .ref dS, .int (nI fk), .int fp, .int (nI ka), .int (nI kn), .int (nI (sv - 1)), .ref dK])), (dM, .inl (cI, 8192, .inl dm3)), (dP, .inl (cI, 16, .inl P3)), (dS, .inl (cI, 16, .inl L3)), (dK, .inl (cI, 16464, .inl dk))]) [0, 1, 2, 3, 4] rfl
      have hD9 := hD.sub (ws' := [(oD, .inr (4, [.int (nI 0), .ref dF, .int (nI len), .int (nI 1), .ref dH, .int (nI sr), .ref dL, .int (nI en), .int (nI ram), .int (nI mza), .ref dM, .int (nI hpa), .int (nI cna), .ref dP, .ref dS, .int (nI fk), .int fp, .int (nI ka), .int (nI kn), .int (nI (sv - 1)), .ref dK])), (dM, .inl (cI, 8192, .inl dm3)), (dP, .inl (cI, 16, .inl P3)), (dS, .inl (cI, 16, .inl L3)), (dK, .inl (cI, 16464, .inl dk))]) [0, 1, 2, 3, 4] (by decide) rfl
      exact W.iret (v := nI mza) hx hb hr (fun t ht hW => ⟨⟨(nI mza), (dm3, P3, L3), rfl, ⟨rfl, fun q h => (hg q (by omega)).1 (by omega) h, by rw [show cna = k by omega]; exact hP3, by rw [show cna = k by omega]; exact hL3⟩, by rw [ht]; exact hP9, hD9⟩, hS.F ht⟩) hS.2.2 dX4_restore_185
    · skip
      refine lv_aload_n hx hb dX4_restore_135 rfl (lv_at hl 0 rfl) ?_
      refine va_get (D := (dC, dI)) (ci := 4) (v := .ref dP) (C := RX4) (T := TX4) (N := 21) hx hb hts (by decide +kernel) hown hK hP 0 rfl rfl 13 (by decide) (hts (.fieldLink RX4 23 "GlulxHeadsModel" "blockAt" "[I") (by decide +kernel)) (fun _ h9 => h9) rfl dX4_restore_136 ?_
      refine lv_iload_n hx hb dX4_restore_139 rfl (lv_at hl 2 rfl) ?_
      refine lv_aload_n hx hb dX4_restore_140 rfl (lv_at hl 0 rfl) ?_
      refine va_get (D := (dC, dI)) (ci := 4) (v := .ref dK) (C := RX4) (T := TX4) (N := 21) hx hb hts (by decide +kernel) hown hK hP 0 rfl rfl 20 (by decide) (hts (.fieldLink RX4 29 "GlulxHeadsModel" "kept" "[I") (by decide +kernel)) (fun _ h9 => h9) rfl dX4_restore_141 ?_
      refine lv_iload_n hx hb dX4_restore_144 rfl (lv_at hl 1 rfl) ?_
      refine lv_sipush (v := nI 8195) hx hb dX4_restore_145 (by decide) ?_
      refine wx_iadd hx hb dX4_restore_148 ?_
      refine lv_iconst (v := nI 2) hx hb dX4_restore_149 (by decide) ?_
      refine lv_iload_n hx hb dX4_restore_150 rfl (lv_at hl 2 rfl) ?_
      refine wx_imul hx hb dX4_restore_151 ?_
      refine wx_iadd hx hb dX4_restore_152 ?_
      refine wx_iald hx hb hK hP 4 1 rfl rfl (by first | omega | (split <;> omega)) (by decide) dX4_restore_153 ?_
      refine wx_top (hkk.2.2.2.2.1 k (by omega)) ?_
      refine wx_iast hx hb hK hP hD hS 2 1 rfl rfl (by first | omega | (split <;> omega)) (by decide) dX4_restore_154 (fun H locs hP hD hS => ?_)
      have hP : va_P (dC, dI) vwCl [(oD, .inr (4, [.int (nI 0), .ref dF, .int (nI len), .int (nI 1), .ref dH, .int (nI sr), .ref dL, .int (nI en), .int (nI ram), .int (nI mza), .ref dM, .int (nI hpa), .int (nI cna), .ref dP, .ref dS, .int (nI fk), .int fp, .int (nI ka), .int (nI kn), .int (nI (sv - 1)), .ref dK])), (dM, .inl (cI, 8192, .inl dm3)), (dP, .inl (cI, 16, .inl (upd P3 k (nI (pla k))))), (dS, .inl (cI, 16, .inl L3)), (dK, .inl (cI, 16464, .inl dk))] H := hP
      have hD : va_D A [(oD, .inr (4, [.int (nI 0), .ref dF, .int (nI len), .int (nI 1), .ref dH, .int (nI sr), .ref dL, .int (nI en), .int (nI ram), .int (nI mza), .ref dM, .int (nI hpa), .int (nI cna), .ref dP, .ref dS, .int (nI fk), .int fp, .int (nI ka), .int (nI kn), .int (nI (sv - 1)), .ref dK])), (dM, .inl (cI, 8192, .inl dm3)), (dP, .inl (cI, 16, .inl (upd P3 k (nI (pla k))))), (dS, .inl (cI, 16, .inl L3)), (dK, .inl (cI, 16464, .inl dk))] := hD
      refine lv_aload_n hx hb dX4_restore_155 rfl (lv_at hl 0 rfl) ?_
      refine va_get (D := (dC, dI)) (ci := 4) (v := .ref dS) (C := RX4) (T := TX4) (N := 21) hx hb hts (by decide +kernel) hown hK hP 0 rfl rfl 14 (by decide) (hts (.fieldLink RX4 26 "GlulxHeadsModel" "blockSize" "[I") (by decide +kernel)) (fun _ h9 => h9) rfl dX4_restore_156 ?_
      refine lv_iload_n hx hb dX4_restore_159 rfl (lv_at hl 2 rfl) ?_
      refine lv_aload_n hx hb dX4_restore_160 rfl (lv_at hl 0 rfl) ?_
      refine va_get (D := (dC, dI)) (ci := 4) (v := .ref dK) (C := RX4) (T := TX4) (N := 21) hx hb hts (by decide +kernel) hown hK hP 0 rfl rfl 20 (by decide) (hts (.fieldLink RX4 29 "GlulxHeadsModel" "kept" "[I") (by decide +kernel)) (fun _ h9 => h9) rfl dX4_restore_161 ?_
      refine lv_iload_n hx hb dX4_restore_164 rfl (lv_at hl 1 rfl) ?_
      refine lv_sipush (v := nI 8196) hx hb dX4_restore_165 (by decide) ?_
      refine wx_iadd hx hb dX4_restore_168 ?_
      refine lv_iconst (v := nI 2) hx hb dX4_restore_169 (by decide) ?_
      refine lv_iload_n hx hb dX4_restore_170 rfl (lv_at hl 2 rfl) ?_
      refine wx_imul hx hb dX4_restore_171 ?_
      refine wx_iadd hx hb dX4_restore_172 ?_
      refine wx_iald hx hb hK hP 4 1 rfl rfl (by first | omega | (split <;> omega)) (by decide) dX4_restore_173 ?_
      refine wx_top (hkk.2.2.2.2.2 k (by omega)) ?_
      refine wx_iast hx hb hK hP hD hS 3 1 rfl rfl (by first | omega | (split <;> omega)) (by decide) dX4_restore_174 (fun H locs hP hD hS => ?_)
      have hP : va_P (dC, dI) vwCl [(oD, .inr (4, [.int (nI 0), .ref dF, .int (nI len), .int (nI 1), .ref dH, .int (nI sr), .ref dL, .int (nI en), .int (nI ram), .int (nI mza), .ref dM, .int (nI hpa), .int (nI cna), .ref dP, .ref dS, .int (nI fk), .int fp, .int (nI ka), .int (nI kn), .int (nI (sv - 1)), .ref dK])), (dM, .inl (cI, 8192, .inl dm3)), (dP, .inl (cI, 16, .inl (upd P3 k (nI (pla k))))), (dS, .inl (cI, 16, .inl (upd L3 k (nI (lla k))))), (dK, .inl (cI, 16464, .inl dk))] H := hP
      have hD : va_D A [(oD, .inr (4, [.int (nI 0), .ref dF, .int (nI len), .int (nI 1), .ref dH, .int (nI sr), .ref dL, .int (nI en), .int (nI ram), .int (nI mza), .ref dM, .int (nI hpa), .int (nI cna), .ref dP, .ref dS, .int (nI fk), .int fp, .int (nI ka), .int (nI kn), .int (nI (sv - 1)), .ref dK])), (dM, .inl (cI, 8192, .inl dm3)), (dP, .inl (cI, 16, .inl (upd P3 k (nI (pla k))))), (dS, .inl (cI, 16, .inl (upd L3 k (nI (lla k))))), (dK, .inl (cI, 16464, .inl dk))] := hD
      refine lv_iinc (v := nI (k + 1)) (lv' := [(3, .int (nI (k + 1))), (0, .ref oD), (1, .int (nI (8232 * (sv - 1))))]) hx hb dX4_restore_175 hl (k := 2) rfl (by rw [show Int32.ofInt 1 = nI 1 by decide]; exact nI_add _ _) (by decide) rfl (fun ls hl => ?_)
      refine lv_goto (tgt := 127) hx hb dX4_restore_178 (by decide) ?_
      exact ih ((k + 1), (upd P3 k (nI (pla k))), (upd L3 k (nI (lla k)))) _ _ _ (by omega) ⟨by first | omega | (split <;> omega), bOk_s hP3, bOk_s hL3, hP.sub [0, 1, 2, 3, 4] rfl, hD.sub [0, 1, 2, 3, 4] (by decide) rfl, hS, lv_sub hl [1, 2, 0] rfl⟩
  · skip
    refine lv_aload_n hx hb dX4_restore_59 rfl (lv_at hl 0 rfl) ?_
    refine lv_iload_n hx hb dX4_restore_60 rfl (lv_at hl 3 rfl) ?_
    refine lv_aload_n hx hb dX4_restore_61 rfl (lv_at hl 0 rfl) ?_
    refine va_get (D := (dC, dI)) (ci := 4) (v := .int (nI mz)) (C := RX4) (T := TX4) (N := 21) hx hb hts (by decide +kernel) hown hK hP 0 rfl rfl 9 (by decide) (hts (.fieldLink RX4 89 "GlulxHeadsModel" "m" "I") (by decide +kernel)) (fun _ h9 => h9) rfl dX4_restore_62 ?_
    refine lv_iload_n hx hb dX4_restore_65 rfl (lv_at hl 2 rfl) ?_
    have hPc := hP.sub (ws' := [(oD, .inr (4, [.int (nI 0), .ref dF, .int (nI len), .int (nI 1), .ref dH, .int (nI sr), .ref dL, .int (nI en), .int (nI ram), .int (nI mz), .ref dM, .int (nI hp), .int (nI cn), .ref dP, .ref dS, .int (nI fk), .int fp, .int (nI ka), .int (nI kn), .int (nI (sv - 1)), .ref dK]))]) [0] rfl
    have hDc := hD.sub (ws' := [(oD, .inr (4, [.int (nI 0), .ref dF, .int (nI len), .int (nI 1), .ref dH, .int (nI sr), .ref dL, .int (nI en), .int (nI ram), .int (nI mz), .ref dM, .int (nI hp), .int (nI cn), .ref dP, .ref dS, .int (nI fk), .int fp, .int (nI ka), .int (nI kn), .int (nI (sv - 1)), .ref dK]))]) [0] (by decide) rfl
    have hFc := va_free (wc := [(oD, .inr (4, [.int (nI 0), .ref dF, .int (nI len), .int (nI 1), .ref dH, .int (nI sr), .ref dL, .int (nI en), .int (nI ram), .int (nI mz), .ref dM, .int (nI hp), .int (nI cn), .ref dP, .ref dS, .int (nI fk), .int fp, .int (nI ka), .int (nI kn), .int (nI (sv - 1)), .ref dK]))]) hD hS hA [0] rfl
    refine va_calli (va_runV (As := [.int (nI i), .int (nI mz), .int (nI mza)]) (rest := []) ⟨hx, hb, hml, hown, hts⟩ (c_X4_isSafe l dC dI cB cI cJ H.size oD 0 dF len 1 dH sr dL en ram mz dM hp cn dP dS fk fp ka kn (sv - 1) dK i mz mza (by first | omega | (split <;> omega)) (by first | omega | (split <;> omega)) (by first | omega | (split <;> omega)) (by first | omega | (split <;> omega)) (by first | omega | (split <;> omega))) (cwV 3 hts gX4_restore_X4_isSafe rfl rfl rfl (by decide +kernel) ⟨Nat.le_of_ble_eq_true rfl, Nat.le_of_ble_eq_true rfl⟩) ⟨wBlind, va_recv hK hPc (ci := 4) (q0 := 0) rfl rfl, wGo hK hPc hDc hN⟩ rfl rfl hl.1 rfl (lv_room (Nat.le_of_ble_eq_true rfl)) dX4_restore_66 ⟨show 0 ≤ 0 by decide, show 0 ≤ 0 by decide⟩) hS (fun q _ h => hFc q h) hFc (fun r_6 u t H1 locs ht hvm w_7 hB hz1 hk1 hS => ?_)
    clear u
    obtain ⟨hP1, hD1⟩ := hB
    rw [ht] at hP1
    try dsimp only at w_7
    obtain ⟨hP, hD⟩ := va_join (wr := [(dM, .inl (cI, 8192, .inl dm3)), (dP, .inl (cI, 16, .inl dp)), (dS, .inl (cI, 16, .inl ds)), (dK, .inl (cI, 16464, .inl dk))]) (w1 := [(oD, .inr (4, [.int (nI 0), .ref dF, .int (nI len), .int (nI 1), .ref dH, .int (nI sr), .ref dL, .int (nI en), .int (nI ram), .int (nI mz), .ref dM, .int (nI hp), .int (nI cn), .ref dP, .ref dS, .int (nI fk), .int fp, .int (nI ka), .int (nI kn), .int (nI (sv - 1)), .ref dK]))]) hP hD [0] [1, 2, 3, 4] rfl rfl (by decide) (by decide) hk1 hFc hP1 hD1
    clear hPc hDc hFc hP1 hD1 hz1 hk1 hvm
    generalize H1 = H at hP hS ⊢
    have hP : va_P (dC, dI) vwCl [(dM, .inl (cI, 8192, .inl dm3)), (dP, .inl (cI, 16, .inl dp)), (dS, .inl (cI, 16, .inl ds)), (dK, .inl (cI, 16464, .inl dk)), (oD, .inr (4, [.int (nI 0), .ref dF, .int (nI len), .int (nI 1), .ref dH, .int (nI sr), .ref dL, .int (nI en), .int (nI ram), .int (nI mz), .ref dM, .int (nI hp), .int (nI cn), .ref dP, .ref dS, .int (nI fk), .int fp, .int (nI ka), .int (nI kn), .int (nI (sv - 1)), .ref dK]))] H := hP
    have hD : va_D A [(dM, .inl (cI, 8192, .inl dm3)), (dP, .inl (cI, 16, .inl dp)), (dS, .inl (cI, 16, .inl ds)), (dK, .inl (cI, 16464, .inl dk)), (oD, .inr (4, [.int (nI 0), .ref dF, .int (nI len), .int (nI 1), .ref dH, .int (nI sr), .ref dL, .int (nI en), .int (nI ram), .int (nI mz), .ref dM, .int (nI hp), .int (nI cn), .ref dP, .ref dS, .int (nI fk), .int fp, .int (nI ka), .int (nI kn), .int (nI (sv - 1)), .ref dK]))] := hD
    subst w_7
    refine wx_if_ne (tgt := 86) hx hb dX4_restore_69 (by decide) (by first | omega | (split <;> omega)) (fun c_8 => ?_) (fun c_8 => ?_)
    · skip
      have c_8 := wz_pos c_8
      refine lv_iinc (v := nI (i + 1)) (lv' := [(3, .int (nI (i + 1))), (0, .ref oD), (1, .int (nI (8232 * (sv - 1)))), (2, .int (nI mza))]) hx hb dX4_restore_86 hl (k := 3) rfl (by rw [show Int32.ofInt 1 = nI 1 by decide]; exact nI_add _ _) (by decide) rfl (fun ls hl => ?_)
      refine lv_goto (tgt := 54) hx hb dX4_restore_89 (by decide) ?_
      exact ih ((i + 1), dm3) _ _ _ (by omega) ⟨by first | omega | (split <;> omega), (by first | exact keep_n hg (by omega) (by omega) (by assumption) | exact keep_s hg (by omega) (by omega) (by assumption) rfl), hP.sub [4, 0, 1, 2, 3] rfl, hD.sub [4, 0, 1, 2, 3] (by decide) rfl, hS, lv_sub hl [1, 2, 3, 0] rfl⟩
    · skip
      have c_8 := wz_zero c_8
      refine lv_aload_n hx hb dX4_restore_72 rfl (lv_at hl 0 rfl) ?_
      refine va_get (D := (dC, dI)) (ci := 4) (v := .ref dM) (C := RX4) (T := TX4) (N := 21) hx hb hts (by decide +kernel) hown hK hP 4 rfl rfl 10 (by decide) (hts (.fieldLink RX4 20 "GlulxHeadsModel" "memory" "[I") (by decide +kernel)) (fun _ h9 => h9) rfl dX4_restore_73 ?_
      refine lv_iload_n hx hb dX4_restore_76 rfl (lv_at hl 3 rfl) ?_
      refine lv_aload_n hx hb dX4_restore_77 rfl (lv_at hl 0 rfl) ?_
      refine va_get (D := (dC, dI)) (ci := 4) (v := .ref dK) (C := RX4) (T := TX4) (N := 21) hx hb hts (by decide +kernel) hown hK hP 4 rfl rfl 20 (by decide) (hts (.fieldLink RX4 29 "GlulxHeadsModel" "kept" "[I") (by decide +kernel)) (fun _ h9 => h9) rfl dX4_restore_78 ?_
      refine lv_iload_n hx hb dX4_restore_81 rfl (lv_at hl 1 rfl) ?_
      refine lv_iload_n hx hb dX4_restore_82 rfl (lv_at hl 3 rfl) ?_
      refine wx_iadd hx hb dX4_restore_83 ?_
      refine wx_iald hx hb hK hP 3 1 rfl rfl (by first | omega | (split <;> omega)) (by decide) dX4_restore_84 ?_
      refine wx_top (hkk.1 i (by omega)) ?_
      refine wx_iast hx hb hK hP hD hS 0 1 rfl rfl (by first | omega | (split <;> omega)) (by decide) dX4_restore_85 (fun H locs hP hD hS => ?_)
      have hP : va_P (dC, dI) vwCl [(dM, .inl (cI, 8192, .inl (upd dm3 i (nI (mema i))))), (dP, .inl (cI, 16, .inl dp)), (dS, .inl (cI, 16, .inl ds)), (dK, .inl (cI, 16464, .inl dk)), (oD, .inr (4, [.int (nI 0), .ref dF, .int (nI len), .int (nI 1), .ref dH, .int (nI sr), .ref dL, .int (nI en), .int (nI ram), .int (nI mz), .ref dM, .int (nI hp), .int (nI cn), .ref dP, .ref dS, .int (nI fk), .int fp, .int (nI ka), .int (nI kn), .int (nI (sv - 1)), .ref dK]))] H := hP
      have hD : va_D A [(dM, .inl (cI, 8192, .inl (upd dm3 i (nI (mema i))))), (dP, .inl (cI, 16, .inl dp)), (dS, .inl (cI, 16, .inl ds)), (dK, .inl (cI, 16464, .inl dk)), (oD, .inr (4, [.int (nI 0), .ref dF, .int (nI len), .int (nI 1), .ref dH, .int (nI sr), .ref dL, .int (nI en), .int (nI ram), .int (nI mz), .ref dM, .int (nI hp), .int (nI cn), .ref dP, .ref dS, .int (nI fk), .int fp, .int (nI ka), .int (nI kn), .int (nI (sv - 1)), .ref dK]))] := hD
      refine lv_iinc (v := nI (i + 1)) (lv' := [(3, .int (nI (i + 1))), (0, .ref oD), (1, .int (nI (8232 * (sv - 1)))), (2, .int (nI mza))]) hx hb dX4_restore_86 hl (k := 3) rfl (by rw [show Int32.ofInt 1 = nI 1 by decide]; exact nI_add _ _) (by decide) rfl (fun ls hl => ?_)
      refine lv_goto (tgt := 54) hx hb dX4_restore_89 (by decide) ?_
      exact ih ((i + 1), (upd dm3 i (nI (mema i)))) _ _ _ (by omega) ⟨by first | omega | (split <;> omega), (by first | exact keep_n hg (by omega) (by omega) (by assumption) | exact keep_s hg (by omega) (by omega) (by assumption) rfl), hP.sub [4, 0, 1, 2, 3] rfl, hD.sub [4, 0, 1, 2, 3] (by decide) rfl, hS, lv_sub hl [1, 2, 3, 0] rfl⟩
