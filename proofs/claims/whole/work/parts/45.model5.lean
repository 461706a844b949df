theorem mblk_ok {dm2 dp ds P2 L2 : Nat → Int32} {pl ll mem : Nat → Nat} {mz cn hp n st i pos m2 : Nat} (hnT : (nI n).toInt.toNat = n) (hnE : (nI n).toInt = (n : Int)) (hn : 1 ≤ n) (hst : st = blkS cn mz hp) (hix : i = gapI pl ll n cn 0 st) (hpg : pos = gapP pl ll st i) (hcn : cn < 16) (hxn : pos + n ≤ 8192) (hP : bOk dp cn pl) (hL : bOk ds cn ll)
    (hw1 : ∀ q, q ≤ cn → P2 q = if q < i then dp q else if q = i then nI pos else dp (q - 1)) (hw2 : ∀ q, q ≤ cn → L2 q = if q < i then ds q else if q = i then nI n else ds (q - 1)) (hm : gOk dm2 m2 mem) (hm2 : m2 = max mz (rup (pos + n))) :
    nI pos = blkR pl ll mz cn hp (nI n) ∧ m2 = blkZ pl ll mz cn hp (nI n) ∧ cn + 1 = blkN pl ll mz cn hp (nI n) ∧ st = blkH pl ll mz cn hp (nI n) ∧ gOk dm2 m2 mem ∧ bOk P2 (cn + 1) (blkPl pl ll mz cn hp (nI n)) ∧ bOk L2 (cn + 1) (blkLl pl ll mz cn hp (nI n)) := by
  have e1 : blkI pl ll mz cn hp n = i := by rw [hix, hst]; rfl
  have e2 : blkX pl ll mz cn hp n = pos := by unfold blkX; rw [e1, hpg, hst]
  have hgl := gapI_le (pl := pl) (ll := ll) (n := n) cn 0 st
  have hixc : i ≤ cn := by rw [hix]; omega
  have hc : blkC pl ll mz cn hp (nI n) := by
    show 1 ≤ (nI n).toInt ∧ cn < 16 ∧ blkX pl ll mz cn hp (nI n).toInt.toNat + (nI n).toInt.toNat ≤ 8192
    rw [hnT, e2]; exact ⟨by omega, hcn, hxn⟩
  unfold blkR blkZ blkN blkH blkPl blkLl
  rw [if_neg (show ¬ (nI n).toInt < 1 by omega)]
  simp only [if_pos hc, hnT, e1, e2]
  exact ⟨by trivial, hm2, by trivial, hst, hm, ins_bOk hP hw1 hixc, ins_bOk hL hw2 hixc⟩
theorem mblk_no {dm dp ds : Nat → Int32} {pl ll mem : Nat → Nat} {mz cn hp n : Nat} (hnT : (nI n).toInt.toNat = n) (hnE : (nI n).toInt = (n : Int)) (hn : 1 ≤ n) (h : ¬ (cn < 16 ∧ blkX pl ll mz cn hp n + n ≤ 8192)) (hm : gOk dm mz mem) (hP : bOk dp cn pl) (hL : bOk ds cn ll) :
    nI 0 = blkR pl ll mz cn hp (nI n) ∧ mz = blkZ pl ll mz cn hp (nI n) ∧ cn = blkN pl ll mz cn hp (nI n) ∧ hp = blkH pl ll mz cn hp (nI n) ∧ gOk dm mz mem ∧ bOk dp cn (blkPl pl ll mz cn hp (nI n)) ∧ bOk ds cn (blkLl pl ll mz cn hp (nI n)) := by
  have hc : ¬ blkC pl ll mz cn hp (nI n) := by
    intro z
    have z2 : 1 ≤ (nI n).toInt ∧ cn < 16 ∧ blkX pl ll mz cn hp (nI n).toInt.toNat + (nI n).toInt.toNat ≤ 8192 := z
    rw [hnT] at z2; exact h z2.2
  unfold blkR blkZ blkN blkH blkPl blkLl
  rw [if_neg (show ¬ (nI n).toInt < 1 by omega)]
  simp only [if_neg hc]
  exact ⟨rfl, by trivial, by trivial, by trivial, hm, hP, hL⟩
theorem mblk_no2 {dm dp ds : Nat → Int32} {pl ll mem : Nat → Nat} {mz cn hp n st i pos : Nat} (hnT : (nI n).toInt.toNat = n) (hnE : (nI n).toInt = (n : Int)) (hn : 1 ≤ n) (hst : st = blkS cn mz hp) (hix : i = gapI pl ll n cn 0 st) (hpg : pos = gapP pl ll st i) (h : ¬ pos + n ≤ 8192) (hm : gOk dm mz mem) (hP : bOk dp cn pl) (hL : bOk ds cn ll) :
    nI 0 = blkR pl ll mz cn hp (nI n) ∧ mz = blkZ pl ll mz cn hp (nI n) ∧ cn = blkN pl ll mz cn hp (nI n) ∧ hp = blkH pl ll mz cn hp (nI n) ∧ gOk dm mz mem ∧ bOk dp cn (blkPl pl ll mz cn hp (nI n)) ∧ bOk ds cn (blkLl pl ll mz cn hp (nI n)) := by
  have e1 : blkI pl ll mz cn hp n = i := by rw [hix, hst]; rfl
  have e2 : blkX pl ll mz cn hp n = pos := by unfold blkX; rw [e1, hpg, hst]
  exact mblk_no hnT hnE hn (fun z => h (by rw [← e2]; exact z.2)) hm hP hL
theorem mblk_neg {dm dp ds : Nat → Int32} {pl ll mem : Nat → Nat} {mz cn hp : Nat} {n : Int32} (h : n.toInt < 1) (hm : gOk dm mz mem) (hP : bOk dp cn pl) (hL : bOk ds cn ll) :
    (-2 : Int32) = blkR pl ll mz cn hp n ∧ mz = blkZ pl ll mz cn hp n ∧ cn = blkN pl ll mz cn hp n ∧ hp = blkH pl ll mz cn hp n ∧ gOk dm mz mem ∧ bOk dp cn (blkPl pl ll mz cn hp n) ∧ bOk ds cn (blkLl pl ll mz cn hp n) := by
  have hc : ¬ blkC pl ll mz cn hp n := fun z => absurd z.1 (by omega)
  unfold blkR blkZ blkN blkH blkPl blkLl
  simp only [if_neg hc]
  exact ⟨by rw [if_pos h], by trivial, by trivial, by trivial, hm, hP, hL⟩
theorem mfre_ok {dm dp ds P2 L2 : Nat → Int32} {pl ll mem : Nat → Nat} {mz cn hp i m2 : Nat} {a : Int32} (hP : bOk dp cn pl) (hL : bOk ds cn ll) (hm : gOk dm mz mem) (hhpm : 0 < cn → hp ≤ mz) (hix : i < cn) (ha : dp i = a) (hq : ∀ q, q < i → ¬ dp q = a) (h5 : ∀ q, q < cn - 1 → P2 q = if q < i then dp q else dp (q + 1)) (h6 : ∀ q, q < cn - 1 → L2 q = if q < i then ds q else ds (q + 1)) (h2 : m2 = (if cn = 1 then hp else mz)) :
    ds i = freR pl ll cn a ∧ m2 = freZ pl mz cn hp a ∧ cn - 1 = freN pl cn a ∧ gOk dm m2 (freM pl mem cn hp a) ∧ bOk P2 (cn - 1) (freL pl pl cn a) ∧ bOk L2 (cn - 1) (freL pl ll cn a) := by
  have e : fI pl a cn 0 = i := fI_hit cn 0 (Nat.zero_le _) (by omega) (by rw [← hP i hix]; exact ha) (fun q z => by rw [← hP q (by omega)]; exact hq q z)
  unfold freR freZ freN freM freL
  simp only [e, if_pos hix]
  refine ⟨hL i hix, ?_, by trivial, ?_, rem_bOk hP h5, rem_bOk hL h6⟩
  · rw [h2]
    by_cases z : cn = 1
    · rw [if_pos z, if_pos ⟨hix, z⟩]
    · rw [if_neg z, if_neg (fun y => z y.2)]
  · by_cases z : cn = 1
    · rw [if_pos ⟨hix, z⟩, h2, if_pos z]
      exact gOk_eq (gOk_le hm (hhpm (by omega))) (fun j hj => by unfold cutM; rw [if_pos hj])
    · rw [if_neg (fun y => z y.2), h2, if_neg z]; exact hm
theorem mfre_no {dm dp ds : Nat → Int32} {pl ll mem : Nat → Nat} {mz cn hp : Nat} {a : Int32} (hP : bOk dp cn pl) (hL : bOk ds cn ll) (hm : gOk dm mz mem) (hq : ∀ q, q < cn → ¬ dp q = a) :
    (-1 : Int32) = freR pl ll cn a ∧ mz = freZ pl mz cn hp a ∧ cn = freN pl cn a ∧ gOk dm mz (freM pl mem cn hp a) ∧ bOk dp cn (freL pl pl cn a) ∧ bOk ds cn (freL pl ll cn a) := by
  have e : fI pl a cn 0 = 0 + cn := fI_none cn 0 (fun q _ z => by rw [← hP q (by omega)]; exact hq q (by omega))
  have e2 : ¬ fI pl a cn 0 < cn := by rw [e]; omega
  unfold freR freZ freN freM freL
  simp only [if_neg e2, if_neg (fun z : fI pl a cn 0 < cn ∧ cn = 1 => e2 z.1)]
  exact ⟨by trivial, by trivial, by trivial, hm, hP, hL⟩
set_option maxHeartbeats 1000000 in
set_option maxRecDepth 100000 in
theorem c_X4_block_M (l : Launch) (dC : Nat → ClassId) (dI : Nat → Nat → Nat) (cB cI cJ : ClassId) (sz : Nat) (oD : Nat) (th : Nat) (dF : Nat) (len : Nat) (dH : Nat) (sr : Nat) (dL : Nat) (en : Nat) (ram : Nat) (mz : Nat) (dM : Nat) (hp : Nat) (cn : Nat) (dP : Nat) (dS : Nat) (fk : Nat) (fp : Int32) (ka : Nat) (kn : Nat) (sv : Nat) (dK : Nat) (dm : Nat → Int32) (dp : Nat → Int32) (ds : Nat → Int32) (mem : Nat → Nat) (pl : Nat → Nat) (ll : Nat → Nat) (nv : Int32) (hmz : mz ≤ 8192) (hm : gOk dm mz mem) (hmem : ∀ j, mem j < 256) (hz : ∀ j, mz ≤ j → mem j = 0) (hcn : cn ≤ 16) (hPl : bOk dp cn pl) (hLl : bOk ds cn ll) (hbm : ∀ i, i < cn → pl i + ll i ≤ mz) (h256 : mz % 256 = 0) (hhp : hp ≤ 8192) (hhpm : 0 < cn → hp ≤ mz) : Met l yX4_block wsX4_block ({ frames := 1, cells := 0, slots := 0, locals := 22 }) (va_Pc [.ref oD, .int nv] (wPre dC dI cB cI cJ sz [(oD, .inr (4, [.int (nI th), .ref dF, .int (nI len), .int (nI 1), .ref dH, .int (nI sr), .ref dL, .int (nI en), .int (nI ram), .int (nI mz), .ref dM, .int (nI hp), .int (nI cn), .ref dP, .ref dS, .int (nI fk), .int fp, .int (nI ka), .int (nI kn), .int (nI sv), .ref dK])), (dM, .inl (cI, 8192, .inl dm)), (dP, .inl (cI, 16, .inl dp)), (dS, .inl (cI, 16, .inl ds))])) (va_Qi (fun (r : Int32) (u : (Nat → Int32) × Nat × Nat × Nat × (Nat → Int32) × (Nat → Int32)) => r = blkR pl ll mz cn hp nv ∧ u.2.1 = blkZ pl ll mz cn hp nv ∧ u.2.2.1 = blkN pl ll mz cn hp nv ∧ u.2.2.2.1 = blkH pl ll mz cn hp nv ∧ gOk u.1 u.2.1 mem ∧ bOk u.2.2.2.2.1 u.2.2.1 (blkPl pl ll mz cn hp nv) ∧ bOk u.2.2.2.2.2 u.2.2.1 (blkLl pl ll mz cn hp nv)) (fun (u : (Nat → Int32) × Nat × Nat × Nat × (Nat → Int32) × (Nat → Int32)) => wPost dC dI (va_A [(oD, .inr (4, [.int (nI th), .ref dF, .int (nI len), .int (nI 1), .ref dH, .int (nI sr), .ref dL, .int (nI en), .int (nI ram), .int (nI mz), .ref dM, .int (nI hp), .int (nI cn), .ref dP, .ref dS, .int (nI fk), .int fp, .int (nI ka), .int (nI kn), .int (nI sv), .ref dK])), (dM, .inl (cI, 8192, .inl dm)), (dP, .inl (cI, 16, .inl dp)), (dS, .inl (cI, 16, .inl ds))] sz) [(oD, .inr (4, [.int (nI 0), .ref dF, .int (nI len), .int (nI 1), .ref dH, .int (nI sr), .ref dL, .int (nI en), .int (nI ram), .int (nI u.2.1), .ref dM, .int (nI u.2.2.2.1), .int (nI u.2.2.1), .ref dP, .ref dS, .int (nI fk), .int fp, .int (nI ka), .int (nI kn), .int (nI sv), .ref dK])), (dM, .inl (cI, 8192, .inl u.1)), (dP, .inl (cI, 16, .inl u.2.2.2.2.1)), (dS, .inl (cI, 16, .inl u.2.2.2.2.2))]) (va_A [(oD, .inr (4, [.int (nI th), .ref dF, .int (nI len), .int (nI 1), .ref dH, .int (nI sr), .ref dL, .int (nI en), .int (nI ram), .int (nI mz), .ref dM, .int (nI hp), .int (nI cn), .ref dP, .ref dS, .int (nI fk), .int fp, .int (nI ka), .int (nI kn), .int (nI sv), .ref dK])), (dM, .inl (cI, 8192, .inl dm)), (dP, .inl (cI, 16, .inl dp)), (dS, .inl (cI, 16, .inl ds))] sz)) 0 0 (va_A [(oD, .inr (4, [.int (nI th), .ref dF, .int (nI len), .int (nI 1), .ref dH, .int (nI sr), .ref dL, .int (nI en), .int (nI ram), .int (nI mz), .ref dM, .int (nI hp), .int (nI cn), .ref dP, .ref dS, .int (nI fk), .int fp, .int (nI ka), .int (nI kn), .int (nI sv), .ref dK])), (dM, .inl (cI, 8192, .inl dm)), (dP, .inl (cI, 16, .inl dp)), (dS, .inl (cI, 16, .inl ds))] sz) := by
  refine Met.ofW (cc := cX4_block) (maxL := 6) (ret := (some .int)) (by decide) rfl ?_
  intro p e s m args below meth c s₁ B hml hv
  obtain ⟨rfl, hsz, hP, hK, hD0, hN⟩ := hv
  have hx := B.exec
  have hb := B.bytes
  have hr := B.returns
  have hts := atoms_spec (ws := wsX4_block) B.pre
  have hown : s.vm.findClass RX4 = some m.cls := findClass_of_methodNamed B.named
  have hlocks := B.notSynchronized
  subst hsz
  have hD := hD0.self (sz := s.heap.size)
  generalize hAe : va_A [(oD, .inr (4, [.int (nI th), .ref dF, .int (nI len), .int (nI 1), .ref dH, .int (nI sr), .ref dL, .int (nI en), .int (nI ram), .int (nI mz), .ref dM, .int (nI hp), .int (nI cn), .ref dP, .ref dS, .int (nI fk), .int fp, .int (nI ka), .int (nI kn), .int (nI sv), .ref dK])), (dM, .inl (cI, 8192, .inl dm)), (dP, .inl (cI, 16, .inl dp)), (dS, .inl (cI, 16, .inl ds))] s.heap.size = A at hD ⊢
  have hA : ∀ q : Nat, s.heap.size ≤ q → A q := fun q h => by rw [← hAe]; exact Or.inr h
  have hS : va_S A s.heap s.heap [] := va_S.rf
  have hP : va_P (dC, dI) vwCl [(oD, .inr (4, [.int (nI th), .ref dF, .int (nI len), .int (nI 1), .ref dH, .int (nI sr), .ref dL, .int (nI en), .int (nI ram), .int (nI mz), .ref dM, .int (nI hp), .int (nI cn), .ref dP, .ref dS, .int (nI fk), .int fp, .int (nI ka), .int (nI kn), .int (nI sv), .ref dK])), (dM, .inl (cI, 8192, .inl dm)), (dP, .inl (cI, 16, .inl dp)), (dS, .inl (cI, 16, .inl ds))] s.heap := hP
  have hl := lv_entry ([.ref oD, .int nv]) (n := 6) (Nat.le_of_ble_eq_true rfl)
  rw [lg_entry_eq]
  generalize (lg_sl ([.ref oD, .int nv]) ++ List.replicate (6 - (lg_sl ([.ref oD, .int nv])).length) Slot.unset).toArray = ls at hl ⊢
  have hl : lv_has ls 6 [(0, .ref oD), (1, .int nv)] := hl
  refine lv_aload_n hx hb dX4_block_0 rfl (lv_at hl 0 rfl) ?_
  refine lv_iconst (v := nI 0) hx hb dX4_block_1 (by decide) ?_
  refine va_put (D := (dC, dI)) (ci := 4) (v := .int (nI 0)) (ty := .int) (C := RX4) (T := TX4) (N := 21) hx hb hts (by decide +kernel) tyX4 tyX4_ok nmX4 hown hK hP hD hS 0 rfl rfl 0 (by decide) (hts (.fieldLink RX4 32 "GlulxHeadsModel" "thrown" "I") (by decide +kernel)) (fun _ h9 => h9) rfl (by decide +kernel) rfl rfl (Nat.le_of_ble_eq_true rfl) dX4_block_2 (fun H locs hP hD hS => ?_)
  have hP : va_P (dC, dI) vwCl [(oD, .inr (4, [.int (nI 0), .ref dF, .int (nI len), .int (nI 1), .ref dH, .int (nI sr), .ref dL, .int (nI en), .int (nI ram), .int (nI mz), .ref dM, .int (nI hp), .int (nI cn), .ref dP, .ref dS, .int (nI fk), .int fp, .int (nI ka), .int (nI kn), .int (nI sv), .ref dK])), (dM, .inl (cI, 8192, .inl dm)), (dP, .inl (cI, 16, .inl dp)), (dS, .inl (cI, 16, .inl ds))] H := hP
  have hD : va_D A [(oD, .inr (4, [.int (nI 0), .ref dF, .int (nI len), .int (nI 1), .ref dH, .int (nI sr), .ref dL, .int (nI en), .int (nI ram), .int (nI mz), .ref dM, .int (nI hp), .int (nI cn), .ref dP, .ref dS, .int (nI fk), .int fp, .int (nI ka), .int (nI kn), .int (nI sv), .ref dK])), (dM, .inl (cI, 8192, .inl dm)), (dP, .inl (cI, 16, .inl dp)), (dS, .inl (cI, 16, .inl ds))] := hD
  refine lv_aload_n hx hb dX4_block_5 rfl (lv_at hl 0 rfl) ?_
  refine va_get (D := (dC, dI)) (ci := 4) (v := .int (nI 1)) (C := RX4) (T := TX4) (N := 21) hx hb hts (by decide +kernel) hown hK hP 0 rfl rfl 3 (by decide) (hts (.fieldLink RX4 76 "GlulxHeadsModel" "has" "Z") (by decide +kernel)) (fun _ h9 => h9) rfl dX4_block_6 ?_
  refine wx_if_ne (tgt := 15) hx hb dX4_block_9 (by decide) (by omega) (fun c_1 => ?_) (fun c_1 => absurd c_1 (by decide))
  refine lv_iload_n hx hb dX4_block_15 rfl (lv_at hl 1 rfl) ?_
  refine lv_iconst (v := nI 1) hx hb dX4_block_16 (by decide) ?_
  refine lv_icmp_ge (tgt := 23) hx hb dX4_block_17 (by decide) (fun c_2 => ?_) (fun c_2 => ?_)
  · skip
    rw [Int32.le_iff_toInt_le, nI_toInt (n := 1) (by omega)] at c_2
    obtain ⟨n, hn, rfl⟩ : ∃ n : Nat, n < 2147483648 ∧ nv = nI n := nI_of (by intro z; rw [Int32.lt_iff_toInt_lt, show (0 : Int32).toInt = 0 by decide] at z; omega)
    have hnE : (nI n).toInt = (n : Int) := nI_toInt hn
    have hnT : (nI n).toInt.toNat = n := by rw [hnE]; exact Int.toNat_natCast _
    refine lv_aload_n hx hb dX4_block_23 rfl (lv_at hl 0 rfl) ?_
    refine va_get (D := (dC, dI)) (ci := 4) (v := .int (nI cn)) (C := RX4) (T := TX4) (N := 21) hx hb hts (by decide +kernel) hown hK hP 0 rfl rfl 12 (by decide) (hts (.fieldLink RX4 95 "GlulxHeadsModel" "blocks" "I") (by decide +kernel)) (fun _ h9 => h9) rfl dX4_block_24 ?_
    refine lv_bipush (v := nI 16) hx hb dX4_block_27 (by decide) ?_
    refine wx_icmp_ne (tgt := 34) hx hb dX4_block_29 (by decide) (by omega) (by omega) (fun c_3 => ?_) (fun c_3 => ?_)
    · skip
      refine lv_aload_n hx hb dX4_block_34 rfl (lv_at hl 0 rfl) ?_
      refine va_get (D := (dC, dI)) (ci := 4) (v := .int (nI cn)) (C := RX4) (T := TX4) (N := 21) hx hb hts (by decide +kernel) hown hK hP 0 rfl rfl 12 (by decide) (hts (.fieldLink RX4 95 "GlulxHeadsModel" "blocks" "I") (by decide +kernel)) (fun _ h9 => h9) rfl dX4_block_35 ?_
      refine wx_if_ne (tgt := 48) hx hb dX4_block_38 (by decide) (by omega) (fun c_4 => ?_) (fun c_4 => ?_)
      · skip
        refine lv_aload_n hx hb dX4_block_48 rfl (lv_at hl 0 rfl) ?_
        refine va_get (D := (dC, dI)) (ci := 4) (v := .int (nI hp)) (C := RX4) (T := TX4) (N := 21) hx hb hts (by decide +kernel) hown hK hP 0 rfl rfl 11 (by decide) (hts (.fieldLink RX4 92 "GlulxHeadsModel" "heap" "I") (by decide +kernel)) (fun _ h9 => h9) rfl dX4_block_49 ?_
        refine lv_istore_n (lv' := [(2, .int (nI hp)), (0, .ref oD), (1, .int (nI n))]) hx hb dX4_block_52 rfl hl (by decide) rfl (fun ls hl => ?_)
        refine lv_iload_n hx hb dX4_block_53 rfl (lv_at hl 0 rfl) ?_
        refine lv_istore_n (lv' := [(3, .int (nI hp)), (2, .int (nI hp)), (0, .ref oD), (1, .int (nI n))]) hx hb dX4_block_54 rfl hl (by decide) rfl (fun ls hl => ?_)
        refine lv_iconst (v := nI 0) hx hb dX4_block_55 (by decide) ?_
        refine lv_istore (lv' := [(4, .int (nI 0)), (3, .int (nI hp)), (2, .int (nI hp)), (0, .ref oD), (1, .int (nI n))]) hx hb dX4_block_56 hl (by decide) rfl (fun ls hl => ?_)
        refine wx_loop (σ := Nat × Nat) (fun xq9 => cn - xq9.1) (fun xq9 H locs ls => (xq9.1 ≤ cn) ∧ (xq9.2 ≤ 8192) ∧ (xq9.2 = gapP pl ll hp xq9.1) ∧ (gapI pl ll n cn 0 hp = gapI pl ll n (cn - xq9.1) xq9.1 xq9.2) ∧ va_P (dC, dI) vwCl [(oD, .inr (4, [.int (nI 0), .ref dF, .int (nI len), .int (nI 1), .ref dH, .int (nI sr), .ref dL, .int (nI en), .int (nI ram), .int (nI mz), .ref dM, .int (nI hp), .int (nI cn), .ref dP, .ref dS, .int (nI fk), .int fp, .int (nI ka), .int (nI kn), .int (nI sv), .ref dK])), (dM, .inl (cI, 8192, .inl dm)), (dP, .inl (cI, 16, .inl dp)), (dS, .inl (cI, 16, .inl ds))] H ∧ va_D A [(oD, .inr (4, [.int (nI 0), .ref dF, .int (nI len), .int (nI 1), .ref dH, .int (nI sr), .ref dL, .int (nI en), .int (nI ram), .int (nI mz), .ref dM, .int (nI hp), .int (nI cn), .ref dP, .ref dS, .int (nI fk), .int fp, .int (nI ka), .int (nI kn), .int (nI sv), .ref dK])), (dM, .inl (cI, 8192, .inl dm)), (dP, .inl (cI, 16, .inl dp)), (dS, .inl (cI, 16, .inl ds))] ∧ va_S A s.heap H locs ∧ lv_has ls 6 [(0, .ref oD), (1, .int (nI n)), (2, .int (nI hp)), (3, .int (nI xq9.2)), (4, .int (nI xq9.1))]) ?_ (0, hp) _ _ _ ⟨by omega, by omega, rfl, rfl, hP.sub [0, 1, 2, 3] rfl, hD.sub [0, 1, 2, 3] (by decide) rfl, hS, lv_sub hl [3, 4, 2, 1, 0] rfl⟩
        rintro ⟨i, pos⟩ H locs ls ⟨hi, hps, hpg, heq, hP, hD, hS, hl⟩ ih
        have hi : i ≤ cn := hi
        have hps : pos ≤ 8192 := hps
        have hpg : pos = gapP pl ll hp i := hpg
        have heq : gapI pl ll n cn 0 hp = gapI pl ll n (cn - i) i pos := heq
        have hP : va_P (dC, dI) vwCl [(oD, .inr (4, [.int (nI 0), .ref dF, .int (nI len), .int (nI 1), .ref dH, .int (nI sr), .ref dL, .int (nI en), .int (nI ram), .int (nI mz), .ref dM, .int (nI hp), .int (nI cn), .ref dP, .ref dS, .int (nI fk), .int fp, .int (nI ka), .int (nI kn), .int (nI sv), .ref dK])), (dM, .inl (cI, 8192, .inl dm)), (dP, .inl (cI, 16, .inl dp)), (dS, .inl (cI, 16, .inl ds))] H := hP
        have hD : va_D A [(oD, .inr (4, [.int (nI 0), .ref dF, .int (nI len), .int (nI 1), .ref dH, .int (nI sr), .ref dL, .int (nI en), .int (nI ram), .int (nI mz), .ref dM, .int (nI hp), .int (nI cn), .ref dP, .ref dS, .int (nI fk), .int fp, .int (nI ka), .int (nI kn), .int (nI sv), .ref dK])), (dM, .inl (cI, 8192, .inl dm)), (dP, .inl (cI, 16, .inl dp)), (dS, .inl (cI, 16, .inl ds))] := hD
        have hl : lv_has ls 6 [(0, .ref oD), (1, .int (nI n)), (2, .int (nI hp)), (3, .int (nI pos)), (4, .int (nI i))] := hl
        refine lv_iload hx hb dX4_block_58 (lv_at hl 4 rfl) ?_
        refine lv_aload_n hx hb dX4_block_60 rfl (lv_at hl 0 rfl) ?_
        refine va_get (D := (dC, dI)) (ci := 4) (v := .int (nI cn)) (C := RX4) (T := TX4) (N := 21) hx hb hts (by decide +kernel) hown hK hP 0 rfl rfl 12 (by decide) (hts (.fieldLink RX4 95 "GlulxHeadsModel" "blocks" "I") (by decide +kernel)) (fun _ h9 => h9) rfl dX4_block_61 ?_
        refine wx_icmp_ge (tgt := 102) hx hb dX4_block_64 (by decide) (by omega) (by omega) (fun c_5 => ?_) (fun c_5 => ?_)
        · skip
          have hix : i = gapI pl ll n cn 0 hp := by rw [heq]; first | exact (gapI_hit (by omega) (by omega)).symm | (rw [show cn - i = 0 by omega]; rfl)
          refine lv_iload_n hx hb dX4_block_102 rfl (lv_at hl 1 rfl) ?_
          refine lv_sipush (v := nI 8192) hx hb dX4_block_103 (by decide) ?_
          refine lv_iload_n hx hb dX4_block_106 rfl (lv_at hl 3 rfl) ?_
          refine wx_isub hx hb dX4_block_107 (by omega) ?_
          refine wx_icmp_le (tgt := 113) hx hb dX4_block_108 (by decide) (by omega) (by omega) (fun c_6 => ?_) (fun c_6 => ?_)
          · skip
            refine lv_aload_n hx hb dX4_block_113 rfl (lv_at hl 0 rfl) ?_
            refine va_get (D := (dC, dI)) (ci := 4) (v := .int (nI cn)) (C := RX4) (T := TX4) (N := 21) hx hb hts (by decide +kernel) hown hK hP 0 rfl rfl 12 (by decide) (hts (.fieldLink RX4 95 "GlulxHeadsModel" "blocks" "I") (by decide +kernel)) (fun _ h9 => h9) rfl dX4_block_114 ?_
            refine lv_istore (lv' := [(5, .int (nI cn)), (0, .ref oD), (1, .int (nI n)), (2, .int (nI hp)), (3, .int (nI pos)), (4, .int (nI i))]) hx hb dX4_block_117 hl (by decide) rfl (fun ls hl => ?_)
            refine wx_loop (σ := Nat × (Nat → Int32) × (Nat → Int32)) (fun xq9 => xq9.1) (fun xq9 H locs ls => (i ≤ xq9.1) ∧ (xq9.1 ≤ cn) ∧ (∀ q, q ≤ cn → xq9.2.1 q = if xq9.1 < q then dp (q - 1) else dp q) ∧ (∀ q, q ≤ cn → xq9.2.2 q = if xq9.1 < q then ds (q - 1) else ds q) ∧ va_P (dC, dI) vwCl [(oD, .inr (4, [.int (nI 0), .ref dF, .int (nI len), .int (nI 1), .ref dH, .int (nI sr), .ref dL, .int (nI en), .int (nI ram), .int (nI mz), .ref dM, .int (nI hp), .int (nI cn), .ref dP, .ref dS, .int (nI fk), .int fp, .int (nI ka), .int (nI kn), .int (nI sv), .ref dK])), (dM, .inl (cI, 8192, .inl dm)), (dP, .inl (cI, 16, .inl xq9.2.1)), (dS, .inl (cI, 16, .inl xq9.2.2))] H ∧ va_D A [(oD, .inr (4, [.int (nI 0), .ref dF, .int (nI len), .int (nI 1), .ref dH, .int (nI sr), .ref dL, .int (nI en), .int (nI ram), .int (nI mz), .ref dM, .int (nI hp), .int (nI cn), .ref dP, .ref dS, .int (nI fk), .int fp, .int (nI ka), .int (nI kn), .int (nI sv), .ref dK])), (dM, .inl (cI, 8192, .inl dm)), (dP, .inl (cI, 16, .inl xq9.2.1)), (dS, .inl (cI, 16, .inl xq9.2.2))] ∧ va_S A s.heap H locs ∧ lv_has ls 6 [(0, .ref oD), (1, .int (nI n)), (2, .int (nI hp)), (3, .int (nI pos)), (4, .int (nI i)), (5, .int (nI xq9.1))]) ?_ (cn, dp, ds) _ _ _ ⟨by omega, by omega, fun q hq => by rw [if_neg (by omega)], fun q hq => by rw [if_neg (by omega)], hP.sub [0, 1, 2, 3] rfl, hD.sub [0, 1, 2, 3] (by decide) rfl, hS, lv_sub hl [1, 2, 3, 4, 5, 0] rfl⟩
            rintro ⟨k, P3, L3⟩ H locs ls ⟨hk1, hk2, hP3, hL3, hP, hD, hS, hl⟩ ih
            have hk1 : i ≤ k := hk1
            have hk2 : k ≤ cn := hk2
            have hP3 : ∀ q, q ≤ cn → P3 q = if k < q then dp (q - 1) else dp q := hP3
            have hL3 : ∀ q, q ≤ cn → L3 q = if k < q then ds (q - 1) else ds q := hL3
            have hP : va_P (dC, dI) vwCl [(oD, .inr (4, [.int (nI 0), .ref dF, .int (nI len), .int (nI 1), .ref dH, .int (nI sr), .ref dL, .int (nI en), .int (nI ram), .int (nI mz), .ref dM, .int (nI hp), .int (nI cn), .ref dP, .ref dS, .int (nI fk), .int fp, .int (nI ka), .int (nI kn), .int (nI sv), .ref dK])), (dM, .inl (cI, 8192, .inl dm)), (dP, .inl (cI, 16, .inl P3)), (dS, .inl (cI, 16, .inl L3))] H := hP
            have hD : va_D A [(oD, .inr (4, [.int (nI 0), .ref dF, .int (nI len), .int (nI 1), .ref dH, .int (nI sr), .ref dL, .int (nI en), .int (nI ram), .int (nI mz), .ref dM, .int (nI hp), .int (nI cn), .ref dP, .ref dS, .int (nI fk), .int fp, .int (nI ka), .int (nI kn), .int (nI sv), .ref dK])), (dM, .inl (cI, 8192, .inl dm)), (dP, .inl (cI, 16, .inl P3)), (dS, .inl (cI, 16, .inl L3))] := hD
            have hl : lv_has ls 6 [(0, .ref oD), (1, .int (nI n)), (2, .int (nI hp)), (3, .int (nI pos)), (4, .int (nI i)), (5, .int (nI k))] := hl
            refine lv_iload hx hb dX4_block_119 (lv_at hl 5 rfl) ?_
            refine lv_iload hx hb dX4_block_121 (lv_at hl 4 rfl) ?_
            refine wx_icmp_le (tgt := 164) hx hb dX4_block_123 (by decide) (by omega) (by omega) (fun c_7 => ?_) (fun c_7 => ?_)
            · skip
              refine lv_aload_n hx hb dX4_block_164 rfl (lv_at hl 0 rfl) ?_
              refine va_get (D := (dC, dI)) (ci := 4) (v := .ref dP) (C := RX4) (T := TX4) (N := 21) hx hb hts (by decide +kernel) hown hK hP 0 rfl rfl 13 (by decide) (hts (.fieldLink RX4 23 "GlulxHeadsModel" "blockAt" "[I") (by decide +kernel)) (fun _ h9 => h9) rfl dX4_block_165 ?_
              refine lv_iload hx hb dX4_block_168 (lv_at hl 4 rfl) ?_
              refine lv_iload_n hx hb dX4_block_170 rfl (lv_at hl 3 rfl) ?_
              refine wx_iast hx hb hK hP hD hS 2 1 rfl rfl (by omega) (by decide) dX4_block_171 (fun H locs hP hD hS => ?_)
              have hP : va_P (dC, dI) vwCl [(oD, .inr (4, [.int (nI 0), .ref dF, .int (nI len), .int (nI 1), .ref dH, .int (nI sr), .ref dL, .int (nI en), .int (nI ram), .int (nI mz), .ref dM, .int (nI hp), .int (nI cn), .ref dP, .ref dS, .int (nI fk), .int fp, .int (nI ka), .int (nI kn), .int (nI sv), .ref dK])), (dM, .inl (cI, 8192, .inl dm)), (dP, .inl (cI, 16, .inl (upd P3 i (nI pos)))), (dS, .inl (cI, 16, .inl L3))] H := hP
              have hD : va_D A [(oD, .inr (4, [.int (nI 0), .ref dF, .int (nI len), .int (nI 1), .ref dH, .int (nI sr), .ref dL, .int (nI en), .int (nI ram), .int (nI mz), .ref dM, .int (nI hp), .int (nI cn), .ref dP, .ref dS, .int (nI fk), .int fp, .int (nI ka), .int (nI kn), .int (nI sv), .ref dK])), (dM, .inl (cI, 8192, .inl dm)), (dP, .inl (cI, 16, .inl (upd P3 i (nI pos)))), (dS, .inl (cI, 16, .inl L3))] := hD
              refine lv_aload_n hx hb dX4_block_172 rfl (lv_at hl 0 rfl) ?_
              refine va_get (D := (dC, dI)) (ci := 4) (v := .ref dS) (C := RX4) (T := TX4) (N := 21) hx hb hts (by decide +kernel) hown hK hP 0 rfl rfl 14 (by decide) (hts (.fieldLink RX4 26 "GlulxHeadsModel" "blockSize" "[I") (by decide +kernel)) (fun _ h9 => h9) rfl dX4_block_173 ?_
              refine lv_iload hx hb dX4_block_176 (lv_at hl 4 rfl) ?_
              refine lv_iload_n hx hb dX4_block_178 rfl (lv_at hl 1 rfl) ?_
              refine wx_iast hx hb hK hP hD hS 3 1 rfl rfl (by omega) (by decide) dX4_block_179 (fun H locs hP hD hS => ?_)
              have hP : va_P (dC, dI) vwCl [(oD, .inr (4, [.int (nI 0), .ref dF, .int (nI len), .int (nI 1), .ref dH, .int (nI sr), .ref dL, .int (nI en), .int (nI ram), .int (nI mz), .ref dM, .int (nI hp), .int (nI cn), .ref dP, .ref dS, .int (nI fk), .int fp, .int (nI ka), .int (nI kn), .int (nI sv), .ref dK])), (dM, .inl (cI, 8192, .inl dm)), (dP, .inl (cI, 16, .inl (upd P3 i (nI pos)))), (dS, .inl (cI, 16, .inl (upd L3 i (nI n))))] H := hP
              have hD : va_D A [(oD, .inr (4, [.int (nI 0), .ref dF, .int (nI len), .int (nI 1), .ref dH, .int (nI sr), .ref dL, .int (nI en), .int (nI ram), .int (nI mz), .ref dM, .int (nI hp), .int (nI cn), .ref dP, .ref dS, .int (nI fk), .int fp, .int (nI ka), .int (nI kn), .int (nI sv), .ref dK])), (dM, .inl (cI, 8192, .inl dm)), (dP, .inl (cI, 16, .inl (upd P3 i (nI pos)))), (dS, .inl (cI, 16, .inl (upd L3 i (nI n))))] := hD
              refine lv_aload_n hx hb dX4_block_180 rfl (lv_at hl 0 rfl) ?_
              refine lv_dup hx hb dX4_block_181 rfl ?_
              refine va_get (D := (dC, dI)) (ci := 4) (v := .int (nI cn)) (C := RX4) (T := TX4) (N := 21) hx hb hts (by decide +kernel) hown hK hP 0 rfl rfl 12 (by decide) (hts (.fieldLink RX4 95 "GlulxHeadsModel" "blocks" "I") (by decide +kernel)) (fun _ h9 => h9) rfl dX4_block_182 ?_
              refine lv_iconst (v := nI 1) hx hb dX4_block_185 (by decide) ?_
              refine wx_iadd hx hb dX4_block_186 ?_
              refine va_put (D := (dC, dI)) (ci := 4) (v := .int (nI (cn + 1))) (ty := .int) (C := RX4) (T := TX4) (N := 21) hx hb hts (by decide +kernel) tyX4 tyX4_ok nmX4 hown hK hP hD hS 0 rfl rfl 12 (by decide) (hts (.fieldLink RX4 95 "GlulxHeadsModel" "blocks" "I") (by decide +kernel)) (fun _ h9 => h9) rfl (by decide +kernel) rfl rfl (Nat.le_of_ble_eq_true rfl) dX4_block_187 (fun H locs hP hD hS => ?_)
              have hP : va_P (dC, dI) vwCl [(oD, .inr (4, [.int (nI 0), .ref dF, .int (nI len), .int (nI 1), .ref dH, .int (nI sr), .ref dL, .int (nI en), .int (nI ram), .int (nI mz), .ref dM, .int (nI hp), .int (nI (cn + 1)), .ref dP, .ref dS, .int (nI fk), .int fp, .int (nI ka), .int (nI kn), .int (nI sv), .ref dK])), (dM, .inl (cI, 8192, .inl dm)), (dP, .inl (cI, 16, .inl (upd P3 i (nI pos)))), (dS, .inl (cI, 16, .inl (upd L3 i (nI n))))] H := hP
              have hD : va_D A [(oD, .inr (4, [.int (nI 0), .ref dF, .int (nI len), .int (nI 1), .ref dH, .int (nI sr), .ref dL, .int (nI en), .int (nI ram), .int (nI mz), .ref dM, .int (nI hp), .int (nI (cn + 1)), .ref dP, .ref dS, .int (nI fk), .int fp, .int (nI ka), .int (nI kn), .int (nI sv), .ref dK])), (dM, .inl (cI, 8192, .inl dm)), (dP, .inl (cI, 16, .inl (upd P3 i (nI pos)))), (dS, .inl (cI, 16, .inl (upd L3 i (nI n))))] := hD
              refine lv_aload_n hx hb dX4_block_190 rfl (lv_at hl 0 rfl) ?_
              refine lv_iload_n hx hb dX4_block_191 rfl (lv_at hl 2 rfl) ?_
              refine va_put (D := (dC, dI)) (ci := 4) (v := .int (nI hp)) (ty := .int) (C := RX4) (T := TX4) (N := 21) hx hb hts (by decide +kernel) tyX4 tyX4_ok nmX4 hown hK hP hD hS 0 rfl rfl 11 (by decide) (hts (.fieldLink RX4 92 "GlulxHeadsModel" "heap" "I") (by decide +kernel)) (fun _ h9 => h9) rfl (by decide +kernel) rfl rfl (Nat.le_of_ble_eq_true rfl) dX4_block_192 (fun H locs hP hD hS => ?_)
              have hP : va_P (dC, dI) vwCl [(oD, .inr (4, [.int (nI 0), .ref dF, .int (nI len), .int (nI 1), .ref dH, .int (nI sr), .ref dL, .int (nI en), .int (nI ram), .int (nI mz), .ref dM, .int (nI hp), .int (nI (cn + 1)), .ref dP, .ref dS, .int (nI fk), .int fp, .int (nI ka), .int (nI kn), .int (nI sv), .ref dK])), (dM, .inl (cI, 8192, .inl dm)), (dP, .inl (cI, 16, .inl (upd P3 i (nI pos)))), (dS, .inl (cI, 16, .inl (upd L3 i (nI n))))] H := hP
              have hD : va_D A [(oD, .inr (4, [.int (nI 0), .ref dF, .int (nI len), .int (nI 1), .ref dH, .int (nI sr), .ref dL, .int (nI en), .int (nI ram), .int (nI mz), .ref dM, .int (nI hp), .int (nI (cn + 1)), .ref dP, .ref dS, .int (nI fk), .int fp, .int (nI ka), .int (nI kn), .int (nI sv), .ref dK])), (dM, .inl (cI, 8192, .inl dm)), (dP, .inl (cI, 16, .inl (upd P3 i (nI pos)))), (dS, .inl (cI, 16, .inl (upd L3 i (nI n))))] := hD
              refine lv_iload_n hx hb dX4_block_195 rfl (lv_at hl 3 rfl) ?_
              refine lv_iload_n hx hb dX4_block_196 rfl (lv_at hl 1 rfl) ?_
              refine wx_iadd hx hb dX4_block_197 ?_
              refine lv_sipush (v := nI 255) hx hb dX4_block_198 (by decide) ?_
              refine wx_iadd hx hb dX4_block_201 ?_
              refine lv_sipush (v := nI 256) hx hb dX4_block_202 (by decide) ?_
              refine wx_idiv hx hb dX4_block_205 (by omega) (by omega) (by omega) ?_
              refine lv_sipush (v := nI 256) hx hb dX4_block_206 (by decide) ?_
              refine wx_imul hx hb dX4_block_209 ?_
              refine lv_istore (lv' := [(5, .int (nI ((((pos + n) + 255) / 256) * 256))), (0, .ref oD), (1, .int (nI n)), (2, .int (nI hp)), (3, .int (nI pos)), (4, .int (nI i))]) hx hb dX4_block_210 hl (by decide) rfl (fun ls hl => ?_)
              refine lv_iload hx hb dX4_block_212 (lv_at hl 0 rfl) ?_
              refine lv_aload_n hx hb dX4_block_214 rfl (lv_at hl 1 rfl) ?_
              refine va_get (D := (dC, dI)) (ci := 4) (v := .int (nI mz)) (C := RX4) (T := TX4) (N := 21) hx hb hts (by decide +kernel) hown hK hP 0 rfl rfl 9 (by decide) (hts (.fieldLink RX4 89 "GlulxHeadsModel" "m" "I") (by decide +kernel)) (fun _ h9 => h9) rfl dX4_block_215 ?_
              refine wx_icmp_le (tgt := 227) hx hb dX4_block_218 (by decide) (by omega) (by omega) (fun c_8 => ?_) (fun c_8 => ?_)
              · skip
                refine lv_iload_n hx hb dX4_block_227 rfl (lv_at hl 4 rfl) ?_
                have hP9 := hP.sub (ws' := [(oD, .inr (4, [.int (nI 0), .ref dF, .int (nI len), .int (nI 1), .ref dH, .int (nI sr), .ref dL, .int (nI en), .int (nI ram), .int (nI mz), .ref dM, .int (nI hp), .int (nI (cn + 1)), .ref dP, .ref dS, .int (nI fk), .int fp, .int (nI ka), .int (nI kn), .int (nI sv), .ref dK])), (dM, .inl (cI, 8192, .inl dm)), (dP, .inl (cI, 16, .inl (upd P3 i (nI pos)))), (dS, .inl (cI, 16, .inl (upd L3 i (nI n))))]) [0, 1, 2, 3] rfl
                have hD9 := hD.sub (ws' := [(oD, .inr (4, [.int (nI 0), .ref dF, .int (nI len), .int (nI 1), .ref dH, .int (nI sr), .ref dL, .int (nI en), .int (nI ram), .int (nI mz), .ref dM, .int (nI hp), .int (nI (cn + 1)), .ref dP, .ref dS, .int (nI fk), .int fp, .int (nI ka), .int (nI kn), .int (nI sv), .ref dK])), (dM, .inl (cI, 8192, .inl dm)), (dP, .inl (cI, 16, .inl (upd P3 i (nI pos)))), (dS, .inl (cI, 16, .inl (upd L3 i (nI n))))]) [0, 1, 2, 3] (by decide) rfl
                exact W.iret (v := nI pos) hx hb hr (fun t ht hW => ⟨⟨(nI pos), (dm, mz, (cn + 1), hp, (upd P3 i (nI pos)), (upd L3 i (nI n))), rfl, mblk_ok (st := hp) (i := i) (pos := pos) hnT hnE (by omega) (by unfold blkS; split <;> omega) hix hpg (by omega) (by omega) hPl hLl (shift_in hi (by omega) hP3) (shift_in hi (by omega) hL3) hm (by unfold rup; dsimp only; omega), by rw [ht]; exact hP9, hD9⟩, hS.F ht⟩) hS.2.2 dX4_block_228
              · skip
                refine lv_aload_n hx hb dX4_block_221 rfl (lv_at hl 1 rfl) ?_
                refine lv_iload hx hb dX4_block_222 (lv_at hl 0 rfl) ?_
                have hPc := hP.sub (ws' := [(oD, .inr (4, [.int (nI 0), .ref dF, .int (nI len), .int (nI 1), .ref dH, .int (nI sr), .ref dL, .int (nI en), .int (nI ram), .int (nI mz), .ref dM, .int (nI hp), .int (nI (cn + 1)), .ref dP, .ref dS, .int (nI fk), .int fp, .int (nI ka), .int (nI kn), .int (nI sv), .ref dK])), (dM, .inl (cI, 8192, .inl dm))]) [0, 1] rfl
                have hDc := hD.sub (ws' := [(oD, .inr (4, [.int (nI 0), .ref dF, .int (nI len), .int (nI 1), .ref dH, .int (nI sr), .ref dL, .int (nI en), .int (nI ram), .int (nI mz), .ref dM, .int (nI hp), .int (nI (cn + 1)), .ref dP, .ref dS, .int (nI fk), .int fp, .int (nI ka), .int (nI kn), .int (nI sv), .ref dK])), (dM, .inl (cI, 8192, .inl dm))]) [0, 1] (by decide) rfl
                have hFc := va_free (wc := [(oD, .inr (4, [.int (nI 0), .ref dF, .int (nI len), .int (nI 1), .ref dH, .int (nI sr), .ref dL, .int (nI en), .int (nI ram), .int (nI mz), .ref dM, .int (nI hp), .int (nI (cn + 1)), .ref dP, .ref dS, .int (nI fk), .int fp, .int (nI ka), .int (nI kn), .int (nI sv), .ref dK])), (dM, .inl (cI, 8192, .inl dm))]) hD hS hA [0, 1] rfl
                refine va_callv (va_runV (As := [.int (nI ((((pos + n) + 255) / 256) * 256))]) (rest := []) ⟨hx, hb, hml, hown, hts⟩ (c_X4_grow l dC dI cB cI cJ H.size oD 0 dF len 1 dH sr dL en ram mz dM hp (cn + 1) dP dS fk fp ka kn sv dK dm mem ((((pos + n) + 255) / 256) * 256) (by omega) hm hmem hz (by omega)) (cwV 1 hts gX4_block_X4_grow rfl rfl rfl (by decide +kernel) ⟨Nat.le_of_ble_eq_true rfl, Nat.le_of_ble_eq_true rfl⟩) ⟨wBlind, va_recv hK hPc (ci := 4) (q0 := 0) rfl rfl, wGo hK hPc hDc hN⟩ rfl rfl hl.1 rfl (lv_room (Nat.le_of_ble_eq_true rfl)) dX4_block_224 ⟨show 0 ≤ 0 by decide, show 0 ≤ 0 by decide⟩) hS (fun q _ h => hFc q h) hFc (fun u t H1 locs ht hvm w_11 hB hz1 hk1 hS => ?_)
                obtain ⟨dm2_12, rfl⟩ : ∃ z, z = u := ⟨_, rfl⟩
                obtain ⟨hP1, hD1⟩ := hB
                rw [ht] at hP1
                try dsimp only at w_11
                obtain ⟨hP, hD⟩ := va_join (wr := [(dP, .inl (cI, 16, .inl (upd P3 i (nI pos)))), (dS, .inl (cI, 16, .inl (upd L3 i (nI n))))]) (w1 := [(oD, .inr (4, [.int (nI 0), .ref dF, .int (nI len), .int (nI 1), .ref dH, .int (nI sr), .ref dL, .int (nI en), .int (nI ram), .int (nI ((((pos + n) + 255) / 256) * 256)), .ref dM, .int (nI hp), .int (nI (cn + 1)), .ref dP, .ref dS, .int (nI fk), .int fp, .int (nI ka), .int (nI kn), .int (nI sv), .ref dK])), (dM, .inl (cI, 8192, .inl dm2_12))]) hP hD [0, 1] [2, 3] rfl rfl (by decide) (by decide) hk1 hFc hP1 hD1
                clear hPc hDc hFc hP1 hD1 hz1 hk1 hvm
                generalize H1 = H at hP hS ⊢
                have hP : va_P (dC, dI) vwCl [(dP, .inl (cI, 16, .inl (upd P3 i (nI pos)))), (dS, .inl (cI, 16, .inl (upd L3 i (nI n)))), (oD, .inr (4, [.int (nI 0), .ref dF, .int (nI len), .int (nI 1), .ref dH, .int (nI sr), .ref dL, .int (nI en), .int (nI ram), .int (nI ((((pos + n) + 255) / 256) * 256)), .ref dM, .int (nI hp), .int (nI (cn + 1)), .ref dP, .ref dS, .int (nI fk), .int fp, .int (nI ka), .int (nI kn), .int (nI sv), .ref dK])), (dM, .inl (cI, 8192, .inl dm2_12))] H := hP
                have hD : va_D A [(dP, .inl (cI, 16, .inl (upd P3 i (nI pos)))), (dS, .inl (cI, 16, .inl (upd L3 i (nI n)))), (oD, .inr (4, [.int (nI 0), .ref dF, .int (nI len), .int (nI 1), .ref dH, .int (nI sr), .ref dL, .int (nI en), .int (nI ram), .int (nI ((((pos + n) + 255) / 256) * 256)), .ref dM, .int (nI hp), .int (nI (cn + 1)), .ref dP, .ref dS, .int (nI fk), .int fp, .int (nI ka), .int (nI kn), .int (nI sv), .ref dK])), (dM, .inl (cI, 8192, .inl dm2_12))] := hD
                refine lv_iload_n hx hb dX4_block_227 rfl (lv_at hl 4 rfl) ?_
                have hP9 := hP.sub (ws' := [(oD, .inr (4, [.int (nI 0), .ref dF, .int (nI len), .int (nI 1), .ref dH, .int (nI sr), .ref dL, .int (nI en), .int (nI ram), .int (nI ((((pos + n) + 255) / 256) * 256)), .ref dM, .int (nI hp), .int (nI (cn + 1)), .ref dP, .ref dS, .int (nI fk), .int fp, .int (nI ka), .int (nI kn), .int (nI sv), .ref dK])), (dM, .inl (cI, 8192, .inl dm2_12)), (dP, .inl (cI, 16, .inl (upd P3 i (nI pos)))), (dS, .inl (cI, 16, .inl (upd L3 i (nI n))))]) [2, 3, 0, 1] rfl
                have hD9 := hD.sub (ws' := [(oD, .inr (4, [.int (nI 0), .ref dF, .int (nI len), .int (nI 1), .ref dH, .int (nI sr), .ref dL, .int (nI en), .int (nI ram), .int (nI ((((pos + n) + 255) / 256) * 256)), .ref dM, .int (nI hp), .int (nI (cn + 1)), .ref dP, .ref dS, .int (nI fk), .int fp, .int (nI ka), .int (nI kn), .int (nI sv), .ref dK])), (dM, .inl (cI, 8192, .inl dm2_12)), (dP, .inl (cI, 16, .inl (upd P3 i (nI pos)))), (dS, .inl (cI, 16, .inl (upd L3 i (nI n))))]) [2, 3, 0, 1] (by decide) rfl
                exact W.iret (v := nI pos) hx hb hr (fun t ht hW => ⟨⟨(nI pos), (dm2_12, ((((pos + n) + 255) / 256) * 256), (cn + 1), hp, (upd P3 i (nI pos)), (upd L3 i (nI n))), rfl, mblk_ok (st := hp) (i := i) (pos := pos) hnT hnE (by omega) (by unfold blkS; split <;> omega) hix hpg (by omega) (by omega) hPl hLl (shift_in hi (by omega) hP3) (shift_in hi (by omega) hL3) (gOk_eq w_11 (fun j hj => by unfold cutM; rw [if_pos hj])) (by unfold rup; dsimp only; omega), by rw [ht]; exact hP9, hD9⟩, hS.F ht⟩) hS.2.2 dX4_block_228
            · skip
              refine lv_aload_n hx hb dX4_block_126 rfl (lv_at hl 0 rfl) ?_
              refine va_get (D := (dC, dI)) (ci := 4) (v := .ref dP) (C := RX4) (T := TX4) (N := 21) hx hb hts (by decide +kernel) hown hK hP 0 rfl rfl 13 (by decide) (hts (.fieldLink RX4 23 "GlulxHeadsModel" "blockAt" "[I") (by decide +kernel)) (fun _ h9 => h9) rfl dX4_block_127 ?_
              refine lv_iload hx hb dX4_block_130 (lv_at hl 5 rfl) ?_
              refine lv_aload_n hx hb dX4_block_132 rfl (lv_at hl 0 rfl) ?_
              refine va_get (D := (dC, dI)) (ci := 4) (v := .ref dP) (C := RX4) (T := TX4) (N := 21) hx hb hts (by decide +kernel) hown hK hP 0 rfl rfl 13 (by decide) (hts (.fieldLink RX4 23 "GlulxHeadsModel" "blockAt" "[I") (by decide +kernel)) (fun _ h9 => h9) rfl dX4_block_133 ?_
              refine lv_iload hx hb dX4_block_136 (lv_at hl 5 rfl) ?_
              refine lv_iconst (v := nI 1) hx hb dX4_block_138 (by decide) ?_
              refine wx_isub hx hb dX4_block_139 (by omega) ?_
              refine wx_iald hx hb hK hP 2 1 rfl rfl (by omega) (by decide) dX4_block_140 ?_
              refine wx_iast hx hb hK hP hD hS 2 1 rfl rfl (by omega) (by decide) dX4_block_141 (fun H locs hP hD hS => ?_)
              have hP : va_P (dC, dI) vwCl [(oD, .inr (4, [.int (nI 0), .ref dF, .int (nI len), .int (nI 1), .ref dH, .int (nI sr), .ref dL, .int (nI en), .int (nI ram), .int (nI mz), .ref dM, .int (nI hp), .int (nI cn), .ref dP, .ref dS, .int (nI fk), .int fp, .int (nI ka), .int (nI kn), .int (nI sv), .ref dK])), (dM, .inl (cI, 8192, .inl dm)), (dP, .inl (cI, 16, .inl (upd P3 k (P3 (k - 1))))), (dS, .inl (cI, 16, .inl L3))] H := hP
              have hD : va_D A [(oD, .inr (4, [.int (nI 0), .ref dF, .int (nI len), .int (nI 1), .ref dH, .int (nI sr), .ref dL, .int (nI en), .int (nI ram), .int (nI mz), .ref dM, .int (nI hp), .int (nI cn), .ref dP, .ref dS, .int (nI fk), .int fp, .int (nI ka), .int (nI kn), .int (nI sv), .ref dK])), (dM, .inl (cI, 8192, .inl dm)), (dP, .inl (cI, 16, .inl (upd P3 k (P3 (k - 1))))), (dS, .inl (cI, 16, .inl L3))] := hD
              refine lv_aload_n hx hb dX4_block_142 rfl (lv_at hl 0 rfl) ?_
              refine va_get (D := (dC, dI)) (ci := 4) (v := .ref dS) (C := RX4) (T := TX4) (N := 21) hx hb hts (by decide +kernel) hown hK hP 0 rfl rfl 14 (by decide) (hts (.fieldLink RX4 26 "GlulxHeadsModel" "blockSize" "[I") (by decide +kernel)) (fun _ h9 => h9) rfl dX4_block_143 ?_
              refine lv_iload hx hb dX4_block_146 (lv_at hl 5 rfl) ?_
              refine lv_aload_n hx hb dX4_block_148 rfl (lv_at hl 0 rfl) ?_
              refine va_get (D := (dC, dI)) (ci := 4) (v := .ref dS) (C := RX4) (T := TX4) (N := 21) hx hb hts (by decide +kernel) hown hK hP 0 rfl rfl 14 (by decide) (hts (.fieldLink RX4 26 "GlulxHeadsModel" "blockSize" "[I") (by decide +kernel)) (fun _ h9 => h9) rfl dX4_block_149 ?_
              refine lv_iload hx hb dX4_block_152 (lv_at hl 5 rfl) ?_
              refine lv_iconst (v := nI 1) hx hb dX4_block_154 (by decide) ?_
              refine wx_isub hx hb dX4_block_155 (by omega) ?_
              refine wx_iald hx hb hK hP 3 1 rfl rfl (by omega) (by decide) dX4_block_156 ?_
              refine wx_iast hx hb hK hP hD hS 3 1 rfl rfl (by omega) (by decide) dX4_block_157 (fun H locs hP hD hS => ?_)
              have hP : va_P (dC, dI) vwCl [(oD, .inr (4, [.int (nI 0), .ref dF, .int (nI len), .int (nI 1), .ref dH, .int (nI sr), .ref dL, .int (nI en), .int (nI ram), .int (nI mz), .ref dM, .int (nI hp), .int (nI cn), .ref dP, .ref dS, .int (nI fk), .int fp, .int (nI ka), .int (nI kn), .int (nI sv), .ref dK])), (dM, .inl (cI, 8192, .inl dm)), (dP, .inl (cI, 16, .inl (upd P3 k (P3 (k - 1))))), (dS, .inl (cI, 16, .inl (upd L3 k (L3 (k - 1)))))] H := hP
              have hD : va_D A [(oD, .inr (4, [.int (nI 0), .ref dF, .int (nI len), .int (nI 1), .ref dH, .int (nI sr), .ref dL, .int (nI en), .int (nI ram), .int (nI mz), .ref dM, .int (nI hp), .int (nI cn), .ref dP, .ref dS, .int (nI fk), .int fp, .int (nI ka), .int (nI kn), .int (nI sv), .ref dK])), (dM, .inl (cI, 8192, .inl dm)), (dP, .inl (cI, 16, .inl (upd P3 k (P3 (k - 1))))), (dS, .inl (cI, 16, .inl (upd L3 k (L3 (k - 1)))))] := hD
              refine lv_iinc (v := nI (k - 1)) (lv' := [(5, .int (nI (k - 1))), (0, .ref oD), (1, .int (nI n)), (2, .int (nI hp)), (3, .int (nI pos)), (4, .int (nI i))]) hx hb dX4_block_158 hl (k := 5) rfl (by rw [show Int32.ofInt (-1) = -1 by decide]; exact sb_m1 (by omega)) (by decide) rfl (fun ls hl => ?_)
              refine lv_goto (tgt := 119) hx hb dX4_block_161 (by decide) ?_
              exact ih ((k - 1), (upd P3 k (P3 (k - 1))), (upd L3 k (L3 (k - 1)))) _ _ _ (by omega) ⟨by omega, by omega, shift_up hk1 hk2 (by omega) hP3, shift_up hk1 hk2 (by omega) hL3, hP.sub [0, 1, 2, 3] rfl, hD.sub [0, 1, 2, 3] (by decide) rfl, hS, lv_sub hl [1, 2, 3, 4, 5, 0] rfl⟩
          · skip
            refine lv_iconst (v := nI 0) hx hb dX4_block_111 (by decide) ?_
            have hP9 := hP.sub (ws' := [(oD, .inr (4, [.int (nI 0), .ref dF, .int (nI len), .int (nI 1), .ref dH, .int (nI sr), .ref dL, .int (nI en), .int (nI ram), .int (nI mz), .ref dM, .int (nI hp), .int (nI cn), .ref dP, .ref dS, .int (nI fk), .int fp, .int (nI ka), .int (nI kn), .int (nI sv), .ref dK])), (dM, .inl (cI, 8192, .inl dm)), (dP, .inl (cI, 16, .inl dp)), (dS, .inl (cI, 16, .inl ds))]) [0, 1, 2, 3] rfl
            have hD9 := hD.sub (ws' := [(oD, .inr (4, [.int (nI 0), .ref dF, .int (nI len), .int (nI 1), .ref dH, .int (nI sr), .ref dL, .int (nI en), .int (nI ram), .int (nI mz), .ref dM, .int (nI hp), .int (nI cn), .ref dP, .ref dS, .int (nI fk), .int fp, .int (nI ka), .int (nI kn), .int (nI sv), .ref dK])), (dM, .inl (cI, 8192, .inl dm)), (dP, .inl (cI, 16, .inl dp)), (dS, .inl (cI, 16, .inl ds))]) [0, 1, 2, 3] (by decide) rfl
            exact W.iret (v := nI 0) hx hb hr (fun t ht hW => ⟨⟨(nI 0), (dm, mz, cn, hp, dp, ds), rfl, mblk_no2 (st := hp) (i := i) (pos := pos) hnT hnE (by omega) (by unfold blkS; split <;> omega) hix hpg (by omega) hm hPl hLl, by rw [ht]; exact hP9, hD9⟩, hS.F ht⟩) hS.2.2 dX4_block_112
        · skip
          refine lv_aload_n hx hb dX4_block_67 rfl (lv_at hl 0 rfl) ?_
          refine va_get (D := (dC, dI)) (ci := 4) (v := .ref dP) (C := RX4) (T := TX4) (N := 21) hx hb hts (by decide +kernel) hown hK hP 0 rfl rfl 13 (by decide) (hts (.fieldLink RX4 23 "GlulxHeadsModel" "blockAt" "[I") (by decide +kernel)) (fun _ h9 => h9) rfl dX4_block_68 ?_
          refine lv_iload hx hb dX4_block_71 (lv_at hl 4 rfl) ?_
          refine wx_iald hx hb hK hP 2 1 rfl rfl (by omega) (by decide) dX4_block_73 ?_
          refine wx_top (hPl i (by omega)) ?_
          have hbi := hbm i (by omega)
          refine lv_iload_n hx hb dX4_block_74 rfl (lv_at hl 3 rfl) ?_
          refine lv_isub hx hb dX4_block_75 ?_
          refine lv_iload_n hx hb dX4_block_76 rfl (lv_at hl 1 rfl) ?_
          refine lv_icmp_ge (tgt := 102) hx hb dX4_block_77 (by decide) (fun c_13 => ?_) (fun c_13 => ?_)
          · skip
            rw [Int32.le_iff_toInt_le, pk_sub_toInt (a := pl i) (b := pos) (by omega) (by omega), nI_toInt (n := n) (by omega)] at c_13
            have hix : i = gapI pl ll n cn 0 hp := by rw [heq]; first | exact (gapI_hit (by omega) (by omega)).symm | (rw [show cn - i = 0 by omega]; rfl)
            refine lv_iload_n hx hb dX4_block_102 rfl (lv_at hl 1 rfl) ?_
            refine lv_sipush (v := nI 8192) hx hb dX4_block_103 (by decide) ?_
            refine lv_iload_n hx hb dX4_block_106 rfl (lv_at hl 3 rfl) ?_
            refine wx_isub hx hb dX4_block_107 (by omega) ?_
            refine wx_icmp_le (tgt := 113) hx hb dX4_block_108 (by decide) (by omega) (by omega) (fun c_14 => ?_) (fun c_14 => ?_)
            · skip
              refine lv_aload_n hx hb dX4_block_113 rfl (lv_at hl 0 rfl) ?_
              refine va_get (D := (dC, dI)) (ci := 4) (v := .int (nI cn)) (C := RX4) (T := TX4) (N := 21) hx hb hts (by decide +kernel) hown hK hP 0 rfl rfl 12 (by decide) (hts (.fieldLink RX4 95 "GlulxHeadsModel" "blocks" "I") (by decide +kernel)) (fun _ h9 => h9) rfl dX4_block_114 ?_
              refine lv_istore (lv' := [(5, .int (nI cn)), (0, .ref oD), (1, .int (nI n)), (2, .int (nI hp)), (3, .int (nI pos)), (4, .int (nI i))]) hx hb dX4_block_117 hl (by decide) rfl (fun ls hl => ?_)
              refine wx_loop (σ := Nat × (Nat → Int32) × (Nat → Int32)) (fun xq9 => xq9.1) (fun xq9 H locs ls => (i ≤ xq9.1) ∧ (xq9.1 ≤ cn) ∧ (∀ q, q ≤ cn → xq9.2.1 q = if xq9.1 < q then dp (q - 1) else dp q) ∧ (∀ q, q ≤ cn → xq9.2.2 q = if xq9.1 < q then ds (q - 1) else ds q) ∧ va_P (dC, dI) vwCl [(oD, .inr (4, [.int (nI 0), .ref dF, .int (nI len), .int (nI 1), .ref dH, .int (nI sr), .ref dL, .int (nI en), .int (nI ram), .int (nI mz), .ref dM, .int (nI hp), .int (nI cn), .ref dP, .ref dS, .int (nI fk), .int fp, .int (nI ka), .int (nI kn), .int (nI sv), .ref dK])), (dM, .inl (cI, 8192, .inl dm)), (dP, .inl (cI, 16, .inl xq9.2.1)), (dS, .inl (cI, 16, .inl xq9.2.2))] H ∧ va_D A [(oD, .inr (4, [.int (nI 0), .ref dF, .int (nI len), .int (nI 1), .ref dH, .int (nI sr), .ref dL, .int (nI en), .int (nI ram), .int (nI mz), .ref dM, .int (nI hp), .int (nI cn), .ref dP, .ref dS, .int (nI fk), .int fp, .int (nI ka), .int (nI kn), .int (nI sv), .ref dK])), (dM, .inl (cI, 8192, .inl dm)), (dP, .inl (cI, 16, .inl xq9.2.1)), (dS, .inl (cI, 16, .inl xq9.2.2))] ∧ va_S A s.heap H locs ∧ lv_has ls 6 [(0, .ref oD), (1, .int (nI n)), (2, .int (nI hp)), (3, .int (nI pos)), (4, .int (nI i)), (5, .int (nI xq9.1))]) ?_ (cn, dp, ds) _ _ _ ⟨by omega, by omega, fun q hq => by rw [if_neg (by omega)], fun q hq => by rw [if_neg (by omega)], hP.sub [0, 1, 2, 3] rfl, hD.sub [0, 1, 2, 3] (by decide) rfl, hS, lv_sub hl [1, 2, 3, 4, 5, 0] rfl⟩
              rintro ⟨k, P3, L3⟩ H locs ls ⟨hk1, hk2, hP3, hL3, hP, hD, hS, hl⟩ ih
              have hk1 : i ≤ k := hk1
              have hk2 : k ≤ cn := hk2
              have hP3 : ∀ q, q ≤ cn → P3 q = if k < q then dp (q - 1) else dp q := hP3
              have hL3 : ∀ q, q ≤ cn → L3 q = if k < q then ds (q - 1) else ds q := hL3
              have hP : va_P (dC, dI) vwCl [(oD, .inr (4, [.int (nI 0), .ref dF, .int (nI len), .int (nI 1), .ref dH, .int (nI sr), .ref dL, .int (nI en), .int (nI ram), .int (nI mz), .ref dM, .int (nI hp), .int (nI cn), .ref dP, .ref dS, .int (nI fk), .int fp, .int (nI ka), .int (nI kn), .int (nI sv), .ref dK])), (dM, .inl (cI, 8192, .inl dm)), (dP, .inl (cI, 16, .inl P3)), (dS, .inl (cI, 16, .inl L3))] H := hP
              have hD : va_D A [(oD, .inr (4, [.int (nI 0), .ref dF, .int (nI len), .int (nI 1), .ref dH, .int (nI sr), .ref dL, .int (nI en), .int (nI ram), .int (nI mz), .ref dM, .int (nI hp), .int (nI cn), .ref dP, .ref dS, .int (nI fk), .int fp, .int (nI ka), .int (nI kn), .int (nI sv), .ref dK])), (dM, .inl (cI, 8192, .inl dm)), (dP, .inl (cI, 16, .inl P3)), (dS, .inl (cI, 16, .inl L3))] := hD
              have hl : lv_has ls 6 [(0, .ref oD), (1, .int (nI n)), (2, .int (nI hp)), (3, .int (nI pos)), (4, .int (nI i)), (5, .int (nI k))] := hl
              refine lv_iload hx hb dX4_block_119 (lv_at hl 5 rfl) ?_
              refine lv_iload hx hb dX4_block_121 (lv_at hl 4 rfl) ?_
              refine wx_icmp_le (tgt := 164) hx hb dX4_block_123 (by decide) (by omega) (by omega) (fun c_15 => ?_) (fun c_15 => ?_)
              · skip
                refine lv_aload_n hx hb dX4_block_164 rfl (lv_at hl 0 rfl) ?_
                refine va_get (D := (dC, dI)) (ci := 4) (v := .ref dP) (C := RX4) (T := TX4) (N := 21) hx hb hts (by decide +kernel) hown hK hP 0 rfl rfl 13 (by decide) (hts (.fieldLink RX4 23 "GlulxHeadsModel" "blockAt" "[I") (by decide +kernel)) (fun _ h9 => h9) rfl dX4_block_165 ?_
                refine lv_iload hx hb dX4_block_168 (lv_at hl 4 rfl) ?_
                refine lv_iload_n hx hb dX4_block_170 rfl (lv_at hl 3 rfl) ?_
                refine wx_iast hx hb hK hP hD hS 2 1 rfl rfl (by omega) (by decide) dX4_block_171 (fun H locs hP hD hS => ?_)
                have hP : va_P (dC, dI) vwCl [(oD, .inr (4, [.int (nI 0), .ref dF, .int (nI len), .int (nI 1), .ref dH, .int (nI sr), .ref dL, .int (nI en), .int (nI ram), .int (nI mz), .ref dM, .int (nI hp), .int (nI cn), .ref dP, .ref dS, .int (nI fk), .int fp, .int (nI ka), .int (nI kn), .int (nI sv), .ref dK])), (dM, .inl (cI, 8192, .inl dm)), (dP, .inl (cI, 16, .inl (upd P3 i (nI pos)))), (dS, .inl (cI, 16, .inl L3))] H := hP
                have hD : va_D A [(oD, .inr (4, [.int (nI 0), .ref dF, .int (nI len), .int (nI 1), .ref dH, .int (nI sr), .ref dL, .int (nI en), .int (nI ram), .int (nI mz), .ref dM, .int (nI hp), .int (nI cn), .ref dP, .ref dS, .int (nI fk), .int fp, .int (nI ka), .int (nI kn), .int (nI sv), .ref dK])), (dM, .inl (cI, 8192, .inl dm)), (dP, .inl (cI, 16, .inl (upd P3 i (nI pos)))), (dS, .inl (cI, 16, .inl L3))] := hD
                refine lv_aload_n hx hb dX4_block_172 rfl (lv_at hl 0 rfl) ?_
                refine va_get (D := (dC, dI)) (ci := 4) (v := .ref dS) (C := RX4) (T := TX4) (N := 21) hx hb hts (by decide +kernel) hown hK hP 0 rfl rfl 14 (by decide) (hts (.fieldLink RX4 26 "GlulxHeadsModel" "blockSize" "[I") (by decide +kernel)) (fun _ h9 => h9) rfl dX4_block_173 ?_
                refine lv_iload hx hb dX4_block_176 (lv_at hl 4 rfl) ?_
                refine lv_iload_n hx hb dX4_block_178 rfl (lv_at hl 1 rfl) ?_
                refine wx_iast hx hb hK hP hD hS 3 1 rfl rfl (by omega) (by decide) dX4_block_179 (fun H locs hP hD hS => ?_)
                have hP : va_P (dC, dI) vwCl [(oD, .inr (4, [.int (nI 0), .ref dF, .int (nI len), .int (nI 1), .ref dH, .int (nI sr), .ref dL, .int (nI en), .int (nI ram), .int (nI mz), .ref dM, .int (nI hp), .int (nI cn), .ref dP, .ref dS, .int (nI fk), .int fp, .int (nI ka), .int (nI kn), .int (nI sv), .ref dK])), (dM, .inl (cI, 8192, .inl dm)), (dP, .inl (cI, 16, .inl (upd P3 i (nI pos)))), (dS, .inl (cI, 16, .inl (upd L3 i (nI n))))] H := hP
                have hD : va_D A [(oD, .inr (4, [.int (nI 0), .ref dF, .int (nI len), .int (nI 1), .ref dH, .int (nI sr), .ref dL, .int (nI en), .int (nI ram), .int (nI mz), .ref dM, .int (nI hp), .int (nI cn), .ref dP, .ref dS, .int (nI fk), .int fp, .int (nI ka), .int (nI kn), .int (nI sv), .ref dK])), (dM, .inl (cI, 8192, .inl dm)), (dP, .inl (cI, 16, .inl (upd P3 i (nI pos)))), (dS, .inl (cI, 16, .inl (upd L3 i (nI n))))] := hD
                refine lv_aload_n hx hb dX4_block_180 rfl (lv_at hl 0 rfl) ?_
                refine lv_dup hx hb dX4_block_181 rfl ?_
                refine va_get (D := (dC, dI)) (ci := 4) (v := .int (nI cn)) (C := RX4) (T := TX4) (N := 21) hx hb hts (by decide +kernel) hown hK hP 0 rfl rfl 12 (by decide) (hts (.fieldLink RX4 95 "GlulxHeadsModel" "blocks" "I") (by decide +kernel)) (fun _ h9 => h9) rfl dX4_block_182 ?_
                refine lv_iconst (v := nI 1) hx hb dX4_block_185 (by decide) ?_
                refine wx_iadd hx hb dX4_block_186 ?_
                refine va_put (D := (dC, dI)) (ci := 4) (v := .int (nI (cn + 1))) (ty := .int) (C := RX4) (T := TX4) (N := 21) hx hb hts (by decide +kernel) tyX4 tyX4_ok nmX4 hown hK hP hD hS 0 rfl rfl 12 (by decide) (hts (.fieldLink RX4 95 "GlulxHeadsModel" "blocks" "I") (by decide +kernel)) (fun _ h9 => h9) rfl (by decide +kernel) rfl rfl (Nat.le_of_ble_eq_true rfl) dX4_block_187 (fun H locs hP hD hS => ?_)
                have hP : va_P (dC, dI) vwCl [(oD, .inr (4, [.int (nI 0), .ref dF, .int (nI len), .int (nI 1), .ref dH, .int (nI sr), .ref dL, .int (nI en), .int (nI ram), .int (nI mz), .ref dM, .int (nI hp), .int (nI (cn + 1)), .ref dP, .ref dS, .int (nI fk), .int fp, .int (nI ka), .int (nI kn), .int (nI sv), .ref dK])), (dM, .inl (cI, 8192, .inl dm)), (dP, .inl (cI, 16, .inl (upd P3 i (nI pos)))), (dS, .inl (cI, 16, .inl (upd L3 i (nI n))))] H := hP
                have hD : va_D A [(oD, .inr (4, [.int (nI 0), .ref dF, .int (nI len), .int (nI 1), .ref dH, .int (nI sr), .ref dL, .int (nI en), .int (nI ram), .int (nI mz), .ref dM, .int (nI hp), .int (nI (cn + 1)), .ref dP, .ref dS, .int (nI fk), .int fp, .int (nI ka), .int (nI kn), .int (nI sv), .ref dK])), (dM, .inl (cI, 8192, .inl dm)), (dP, .inl (cI, 16, .inl (upd P3 i (nI pos)))), (dS, .inl (cI, 16, .inl (upd L3 i (nI n))))] := hD
                refine lv_aload_n hx hb dX4_block_190 rfl (lv_at hl 0 rfl) ?_
                refine lv_iload_n hx hb dX4_block_191 rfl (lv_at hl 2 rfl) ?_
                refine va_put (D := (dC, dI)) (ci := 4) (v := .int (nI hp)) (ty := .int) (C := RX4) (T := TX4) (N := 21) hx hb hts (by decide +kernel) tyX4 tyX4_ok nmX4 hown hK hP hD hS 0 rfl rfl 11 (by decide) (hts (.fieldLink RX4 92 "GlulxHeadsModel" "heap" "I") (by decide +kernel)) (fun _ h9 => h9) rfl (by decide +kernel) rfl rfl (Nat.le_of_ble_eq_true rfl) dX4_block_192 (fun H locs hP hD hS => ?_)
                have hP : va_P (dC, dI) vwCl [(oD, .inr (4, [.int (nI 0), .ref dF, .int (nI len), .int (nI 1), .ref dH, .int (nI sr), .ref dL, .int (nI en), .int (nI ram), .int (nI mz), .ref dM, .int (nI hp), .int (nI (cn + 1)), .ref dP, .ref dS, .int (nI fk), .int fp, .int (nI ka), .int (nI kn), .int (nI sv), .ref dK])), (dM, .inl (cI, 8192, .inl dm)), (dP, .inl (cI, 16, .inl (upd P3 i (nI pos)))), (dS, .inl (cI, 16, .inl (upd L3 i (nI n))))] H := hP
                have hD : va_D A [(oD, .inr (4, [.int (nI 0), .ref dF, .int (nI len), .int (nI 1), .ref dH, .int (nI sr), .ref dL, .int (nI en), .int (nI ram), .int (nI mz), .ref dM, .int (nI hp), .int (nI (cn + 1)), .ref dP, .ref dS, .int (nI fk), .int fp, .int (nI ka), .int (nI kn), .int (nI sv), .ref dK])), (dM, .inl (cI, 8192, .inl dm)), (dP, .inl (cI, 16, .inl (upd P3 i (nI pos)))), (dS, .inl (cI, 16, .inl (upd L3 i (nI n))))] := hD
                refine lv_iload_n hx hb dX4_block_195 rfl (lv_at hl 3 rfl) ?_
                refine lv_iload_n hx hb dX4_block_196 rfl (lv_at hl 1 rfl) ?_
                refine wx_iadd hx hb dX4_block_197 ?_
                refine lv_sipush (v := nI 255) hx hb dX4_block_198 (by decide) ?_
                refine wx_iadd hx hb dX4_block_201 ?_
                refine lv_sipush (v := nI 256) hx hb dX4_block_202 (by decide) ?_
                refine wx_idiv hx hb dX4_block_205 (by omega) (by omega) (by omega) ?_
                refine lv_sipush (v := nI 256) hx hb dX4_block_206 (by decide) ?_
                refine wx_imul hx hb dX4_block_209 ?_
                refine lv_istore (lv' := [(5, .int (nI ((((pos + n) + 255) / 256) * 256))), (0, .ref oD), (1, .int (nI n)), (2, .int (nI hp)), (3, .int (nI pos)), (4, .int (nI i))]) hx hb dX4_block_210 hl (by decide) rfl (fun ls hl => ?_)
                refine lv_iload hx hb dX4_block_212 (lv_at hl 0 rfl) ?_
                refine lv_aload_n hx hb dX4_block_214 rfl (lv_at hl 1 rfl) ?_
                refine va_get (D := (dC, dI)) (ci := 4) (v := .int (nI mz)) (C := RX4) (T := TX4) (N := 21) hx hb hts (by decide +kernel) hown hK hP 0 rfl rfl 9 (by decide) (hts (.fieldLink RX4 89 "GlulxHeadsModel" "m" "I") (by decide +kernel)) (fun _ h9 => h9) rfl dX4_block_215 ?_
                refine wx_icmp_le (tgt := 227) hx hb dX4_block_218 (by decide) (by omega) (by omega) (fun c_16 => ?_) (fun c_16 => ?_)
                · skip
                  refine lv_iload_n hx hb dX4_block_227 rfl (lv_at hl 4 rfl) ?_
                  have hP9 := hP.sub (ws' := [(oD, .inr (4, [.int (nI 0), .ref dF, .int (nI len), .int (nI 1), .ref dH, .int (nI sr), .ref dL, .int (nI en), .int (nI ram), .int (nI mz), .ref dM, .int (nI hp), .int (nI (cn + 1)), .ref dP, .ref dS, .int (nI fk), .int fp, .int (nI ka), .int (nI kn), .int (nI sv), .ref dK])), (dM, .inl (cI, 8192, .inl dm)), (dP, .inl (cI, 16, .inl (upd P3 i (nI pos)))), (dS, .inl (cI, 16, .inl (upd L3 i (nI n))))]) [0, 1, 2, 3] rfl
                  have hD9 := hD.sub (ws' := [(oD, .inr (4, [.int (nI 0), .ref dF, .int (nI len), .int (nI 1), .ref dH, .int (nI sr), .ref dL, .int (nI en), .int (nI ram), .int (nI mz), .ref dM, .int (nI hp), .int (nI (cn + 1)), .ref dP, .ref dS, .int (nI fk), .int fp, .int (nI ka), .int (nI kn), .int (nI sv), .ref dK])), (dM, .inl (cI, 8192, .inl dm)), (dP, .inl (cI, 16, .inl (upd P3 i (nI pos)))), (dS, .inl (cI, 16, .inl (upd L3 i (nI n))))]) [0, 1, 2, 3] (by decide) rfl
                  exact W.iret (v := nI pos) hx hb hr (fun t ht hW => ⟨⟨(nI pos), (dm, mz, (cn + 1), hp, (upd P3 i (nI pos)), (upd L3 i (nI n))), rfl, mblk_ok (st := hp) (i := i) (pos := pos) hnT hnE (by omega) (by unfold blkS; split <;> omega) hix hpg (by omega) (by omega) hPl hLl (shift_in hi (by omega) hP3) (shift_in hi (by omega) hL3) hm (by unfold rup; dsimp only; omega), by rw [ht]; exact hP9, hD9⟩, hS.F ht⟩) hS.2.2 dX4_block_228
                · skip
                  refine lv_aload_n hx hb dX4_block_221 rfl (lv_at hl 1 rfl) ?_
                  refine lv_iload hx hb dX4_block_222 (lv_at hl 0 rfl) ?_
                  have hPc := hP.sub (ws' := [(oD, .inr (4, [.int (nI 0), .ref dF, .int (nI len), .int (nI 1), .ref dH, .int (nI sr), .ref dL, .int (nI en), .int (nI ram), .int (nI mz), .ref dM, .int (nI hp), .int (nI (cn + 1)), .ref dP, .ref dS, .int (nI fk), .int fp, .int (nI ka), .int (nI kn), .int (nI sv), .ref dK])), (dM, .inl (cI, 8192, .inl dm))]) [0, 1] rfl
                  have hDc := hD.sub (ws' := [(oD, .inr (4, [.int (nI 0), .ref dF, .int (nI len), .int (nI 1), .ref dH, .int (nI sr), .ref dL, .int (nI en), .int (nI ram), .int (nI mz), .ref dM, .int (nI hp), .int (nI (cn + 1)), .ref dP, .ref dS, .int (nI fk), .int fp, .int (nI ka), .int (nI kn), .int (nI sv), .ref dK])), (dM, .inl (cI, 8192, .inl dm))]) [0, 1] (by decide) rfl
                  have hFc := va_free (wc := [(oD, .inr (4, [.int (nI 0), .ref dF, .int (nI len), .int (nI 1), .ref dH, .int (nI sr), .ref dL, .int (nI en), .int (nI ram), .int (nI mz), .ref dM, .int (nI hp), .int (nI (cn + 1)), .ref dP, .ref dS, .int (nI fk), .int fp, .int (nI ka), .int (nI kn), .int (nI sv), .ref dK])), (dM, .inl (cI, 8192, .inl dm))]) hD hS hA [0, 1] rfl
                  refine va_callv (va_runV (As := [.int (nI ((((pos + n) + 255) / 256) * 256))]) (rest := []) ⟨hx, hb, hml, hown, hts⟩ (c_X4_grow l dC dI cB cI cJ H.size oD 0 dF len 1 dH sr dL en ram mz dM hp (cn + 1) dP dS fk fp ka kn sv dK dm mem ((((pos + n) + 255) / 256) * 256) (by omega) hm hmem hz (by omega)) (cwV 1 hts gX4_block_X4_grow rfl rfl rfl (by decide +kernel) ⟨Nat.le_of_ble_eq_true rfl, Nat.le_of_ble_eq_true rfl⟩) ⟨wBlind, va_recv hK hPc (ci := 4) (q0 := 0) rfl rfl, wGo hK hPc hDc hN⟩ rfl rfl hl.1 rfl (lv_room (Nat.le_of_ble_eq_true rfl)) dX4_block_224 ⟨show 0 ≤ 0 by decide, show 0 ≤ 0 by decide⟩) hS (fun q _ h => hFc q h) hFc (fun u t H1 locs ht hvm w_19 hB hz1 hk1 hS => ?_)
                  obtain ⟨dm2_20, rfl⟩ : ∃ z, z = u := ⟨_, rfl⟩
                  obtain ⟨hP1, hD1⟩ := hB
                  rw [ht] at hP1
                  try dsimp only at w_19
                  obtain ⟨hP, hD⟩ := va_join (wr := [(dP, .inl (cI, 16, .inl (upd P3 i (nI pos)))), (dS, .inl (cI, 16, .inl (upd L3 i (nI n))))]) (w1 := [(oD, .inr (4, [.int (nI 0), .ref dF, .int (nI len), .int (nI 1), .ref dH, .int (nI sr), .ref dL, .int (nI en), .int (nI ram), .int (nI ((((pos + n) + 255) / 256) * 256)), .ref dM, .int (nI hp), .int (nI (cn + 1)), .ref dP, .ref dS, .int (nI fk), .int fp, .int (nI ka), .int (nI kn), .int (nI sv), .ref dK])), (dM, .inl (cI, 8192, .inl dm2_20))]) hP hD [0, 1] [2, 3] rfl rfl (by decide) (by decide) hk1 hFc hP1 hD1
                  clear hPc hDc hFc hP1 hD1 hz1 hk1 hvm
                  generalize H1 = H at hP hS ⊢
                  have hP : va_P (dC, dI) vwCl [(dP, .inl (cI, 16, .inl (upd P3 i (nI pos)))), (dS, .inl (cI, 16, .inl (upd L3 i (nI n)))), (oD, .inr (4, [.int (nI 0), .ref dF, .int (nI len), .int (nI 1), .ref dH, .int (nI sr), .ref dL, .int (nI en), .int (nI ram), .int (nI ((((pos + n) + 255) / 256) * 256)), .ref dM, .int (nI hp), .int (nI (cn + 1)), .ref dP, .ref dS, .int (nI fk), .int fp, .int (nI ka), .int (nI kn), .int (nI sv), .ref dK])), (dM, .inl (cI, 8192, .inl dm2_20))] H := hP
                  have hD : va_D A [(dP, .inl (cI, 16, .inl (upd P3 i (nI pos)))), (dS, .inl (cI, 16, .inl (upd L3 i (nI n)))), (oD, .inr (4, [.int (nI 0), .ref dF, .int (nI len), .int (nI 1), .ref dH, .int (nI sr), .ref dL, .int (nI en), .int (nI ram), .int (nI ((((pos + n) + 255) / 256) * 256)), .ref dM, .int (nI hp), .int (nI (cn + 1)), .ref dP, .ref dS, .int (nI fk), .int fp, .int (nI ka), .int (nI kn), .int (nI sv), .ref dK])), (dM, .inl (cI, 8192, .inl dm2_20))] := hD
                  refine lv_iload_n hx hb dX4_block_227 rfl (lv_at hl 4 rfl) ?_
                  have hP9 := hP.sub (ws' := [(oD, .inr (4, [.int (nI 0), .ref dF, .int (nI len), .int (nI 1), .ref dH, .int (nI sr), .ref dL, .int (nI en), .int (nI ram), .int (nI ((((pos + n) + 255) / 256) * 256)), .ref dM, .int (nI hp), .int (nI (cn + 1)), .ref dP, .ref dS, .int (nI fk), .int fp, .int (nI ka), .int (nI kn), .int (nI sv), .ref dK])), (dM, .inl (cI, 8192, .inl dm2_20)), (dP, .inl (cI, 16, .inl (upd P3 i (nI pos)))), (dS, .inl (cI, 16, .inl (upd L3 i (nI n))))]) [2, 3, 0, 1] rfl
                  have hD9 := hD.sub (ws' := [(oD, .inr (4, [.int (nI 0), .ref dF, .int (nI len), .int (nI 1), .ref dH, .int (nI sr), .ref dL, .int (nI en), .int (nI ram), .int (nI ((((pos + n) + 255) / 256) * 256)), .ref dM, .int (nI hp), .int (nI (cn + 1)), .ref dP, .ref dS, .int (nI fk), .int fp, .int (nI ka), .int (nI kn), .int (nI sv), .ref dK])), (dM, .inl (cI, 8192, .inl dm2_20)), (dP, .inl (cI, 16, .inl (upd P3 i (nI pos)))), (dS, .inl (cI, 16, .inl (upd L3 i (nI n))))]) [2, 3, 0, 1] (by decide) rfl
                  exact W.iret (v := nI pos) hx hb hr (fun t ht hW => ⟨⟨(nI pos), (dm2_20, ((((pos + n) + 255) / 256) * 256), (cn + 1), hp, (upd P3 i (nI pos)), (upd L3 i (nI n))), rfl, mblk_ok (st := hp) (i := i) (pos := pos) hnT hnE (by omega) (by unfold blkS; split <;> omega) hix hpg (by omega) (by omega) hPl hLl (shift_in hi (by omega) hP3) (shift_in hi (by omega) hL3) (gOk_eq w_19 (fun j hj => by unfold cutM; rw [if_pos hj])) (by unfold rup; dsimp only; omega), by rw [ht]; exact hP9, hD9⟩, hS.F ht⟩) hS.2.2 dX4_block_228
              · skip
                refine lv_aload_n hx hb dX4_block_126 rfl (lv_at hl 0 rfl) ?_
                refine va_get (D := (dC, dI)) (ci := 4) (v := .ref dP) (C := RX4) (T := TX4) (N := 21) hx hb hts (by decide +kernel) hown hK hP 0 rfl rfl 13 (by decide) (hts (.fieldLink RX4 23 "GlulxHeadsModel" "blockAt" "[I") (by decide +kernel)) (fun _ h9 => h9) rfl dX4_block_127 ?_
                refine lv_iload hx hb dX4_block_130 (lv_at hl 5 rfl) ?_
                refine lv_aload_n hx hb dX4_block_132 rfl (lv_at hl 0 rfl) ?_
                refine va_get (D := (dC, dI)) (ci := 4) (v := .ref dP) (C := RX4) (T := TX4) (N := 21) hx hb hts (by decide +kernel) hown hK hP 0 rfl rfl 13 (by decide) (hts (.fieldLink RX4 23 "GlulxHeadsModel" "blockAt" "[I") (by decide +kernel)) (fun _ h9 => h9) rfl dX4_block_133 ?_
                refine lv_iload hx hb dX4_block_136 (lv_at hl 5 rfl) ?_
                refine lv_iconst (v := nI 1) hx hb dX4_block_138 (by decide) ?_
                refine wx_isub hx hb dX4_block_139 (by omega) ?_
                refine wx_iald hx hb hK hP 2 1 rfl rfl (by omega) (by decide) dX4_block_140 ?_
                refine wx_iast hx hb hK hP hD hS 2 1 rfl rfl (by omega) (by decide) dX4_block_141 (fun H locs hP hD hS => ?_)
                have hP : va_P (dC, dI) vwCl [(oD, .inr (4, [.int (nI 0), .ref dF, .int (nI len), .int (nI 1), .ref dH, .int (nI sr), .ref dL, .int (nI en), .int (nI ram), .int (nI mz), .ref dM, .int (nI hp), .int (nI cn), .ref dP, .ref dS, .int (nI fk), .int fp, .int (nI ka), .int (nI kn), .int (nI sv), .ref dK])), (dM, .inl (cI, 8192, .inl dm)), (dP, .inl (cI, 16, .inl (upd P3 k (P3 (k - 1))))), (dS, .inl (cI, 16, .inl L3))] H := hP
                have hD : va_D A [(oD, .inr (4, [.int (nI 0), .ref dF, .int (nI len), .int (nI 1), .ref dH, .int (nI sr), .ref dL, .int (nI en), .int (nI ram), .int (nI mz), .ref dM, .int (nI hp), .int (nI cn), .ref dP, .ref dS, .int (nI fk), .int fp, .int (nI ka), .int (nI kn), .int (nI sv), .ref dK])), (dM, .inl (cI, 8192, .inl dm)), (dP, .inl (cI, 16, .inl (upd P3 k (P3 (k - 1))))), (dS, .inl (cI, 16, .inl L3))] := hD
                refine lv_aload_n hx hb dX4_block_142 rfl (lv_at hl 0 rfl) ?_
                refine va_get (D := (dC, dI)) (ci := 4) (v := .ref dS) (C := RX4) (T := TX4) (N := 21) hx hb hts (by decide +kernel) hown hK hP 0 rfl rfl 14 (by decide) (hts (.fieldLink RX4 26 "GlulxHeadsModel" "blockSize" "[I") (by decide +kernel)) (fun _ h9 => h9) rfl dX4_block_143 ?_
                refine lv_iload hx hb dX4_block_146 (lv_at hl 5 rfl) ?_
                refine lv_aload_n hx hb dX4_block_148 rfl (lv_at hl 0 rfl) ?_
                refine va_get (D := (dC, dI)) (ci := 4) (v := .ref dS) (C := RX4) (T := TX4) (N := 21) hx hb hts (by decide +kernel) hown hK hP 0 rfl rfl 14 (by decide) (hts (.fieldLink RX4 26 "GlulxHeadsModel" "blockSize" "[I") (by decide +kernel)) (fun _ h9 => h9) rfl dX4_block_149 ?_
                refine lv_iload hx hb dX4_block_152 (lv_at hl 5 rfl) ?_
                refine lv_iconst (v := nI 1) hx hb dX4_block_154 (by decide) ?_
                refine wx_isub hx hb dX4_block_155 (by omega) ?_
                refine wx_iald hx hb hK hP 3 1 rfl rfl (by omega) (by decide) dX4_block_156 ?_
                refine wx_iast hx hb hK hP hD hS 3 1 rfl rfl (by omega) (by decide) dX4_block_157 (fun H locs hP hD hS => ?_)
                have hP : va_P (dC, dI) vwCl [(oD, .inr (4, [.int (nI 0), .ref dF, .int (nI len), .int (nI 1), .ref dH, .int (nI sr), .ref dL, .int (nI en), .int (nI ram), .int (nI mz), .ref dM, .int (nI hp), .int (nI cn), .ref dP, .ref dS, .int (nI fk), .int fp, .int (nI ka), .int (nI kn), .int (nI sv), .ref dK])), (dM, .inl (cI, 8192, .inl dm)), (dP, .inl (cI, 16, .inl (upd P3 k (P3 (k - 1))))), (dS, .inl (cI, 16, .inl (upd L3 k (L3 (k - 1)))))] H := hP
                have hD : va_D A [(oD, .inr (4, [.int (nI 0), .ref dF, .int (nI len), .int (nI 1), .ref dH, .int (nI sr), .ref dL, .int (nI en), .int (nI ram), .int (nI mz), .ref dM, .int (nI hp), .int (nI cn), .ref dP, .ref dS, .int (nI fk), .int fp, .int (nI ka), .int (nI kn), .int (nI sv), .ref dK])), (dM, .inl (cI, 8192, .inl dm)), (dP, .inl (cI, 16, .inl (upd P3 k (P3 (k - 1))))), (dS, .inl (cI, 16, .inl (upd L3 k (L3 (k - 1)))))] := hD
                refine lv_iinc (v := nI (k - 1)) (lv' := [(5, .int (nI (k - 1))), (0, .ref oD), (1, .int (nI n)), (2, .int (nI hp)), (3, .int (nI pos)), (4, .int (nI i))]) hx hb dX4_block_158 hl (k := 5) rfl (by rw [show Int32.ofInt (-1) = -1 by decide]; exact sb_m1 (by omega)) (by decide) rfl (fun ls hl => ?_)
                refine lv_goto (tgt := 119) hx hb dX4_block_161 (by decide) ?_
                exact ih ((k - 1), (upd P3 k (P3 (k - 1))), (upd L3 k (L3 (k - 1)))) _ _ _ (by omega) ⟨by omega, by omega, shift_up hk1 hk2 (by omega) hP3, shift_up hk1 hk2 (by omega) hL3, hP.sub [0, 1, 2, 3] rfl, hD.sub [0, 1, 2, 3] (by decide) rfl, hS, lv_sub hl [1, 2, 3, 4, 5, 0] rfl⟩
            · skip
              refine lv_iconst (v := nI 0) hx hb dX4_block_111 (by decide) ?_
              have hP9 := hP.sub (ws' := [(oD, .inr (4, [.int (nI 0), .ref dF, .int (nI len), .int (nI 1), .ref dH, .int (nI sr), .ref dL, .int (nI en), .int (nI ram), .int (nI mz), .ref dM, .int (nI hp), .int (nI cn), .ref dP, .ref dS, .int (nI fk), .int fp, .int (nI ka), .int (nI kn), .int (nI sv), .ref dK])), (dM, .inl (cI, 8192, .inl dm)), (dP, .inl (cI, 16, .inl dp)), (dS, .inl (cI, 16, .inl ds))]) [0, 1, 2, 3] rfl
              have hD9 := hD.sub (ws' := [(oD, .inr (4, [.int (nI 0), .ref dF, .int (nI len), .int (nI 1), .ref dH, .int (nI sr), .ref dL, .int (nI en), .int (nI ram), .int (nI mz), .ref dM, .int (nI hp), .int (nI cn), .ref dP, .ref dS, .int (nI fk), .int fp, .int (nI ka), .int (nI kn), .int (nI sv), .ref dK])), (dM, .inl (cI, 8192, .inl dm)), (dP, .inl (cI, 16, .inl dp)), (dS, .inl (cI, 16, .inl ds))]) [0, 1, 2, 3] (by decide) rfl
              exact W.iret (v := nI 0) hx hb hr (fun t ht hW => ⟨⟨(nI 0), (dm, mz, cn, hp, dp, ds), rfl, mblk_no2 (st := hp) (i := i) (pos := pos) hnT hnE (by omega) (by unfold blkS; split <;> omega) hix hpg (by omega) hm hPl hLl, by rw [ht]; exact hP9, hD9⟩, hS.F ht⟩) hS.2.2 dX4_block_112
          · skip
            rw [Int32.le_iff_toInt_le, pk_sub_toInt (a := pl i) (b := pos) (by omega) (by omega), nI_toInt (n := n) (by omega)] at c_13
            refine lv_aload_n hx hb dX4_block_80 rfl (lv_at hl 0 rfl) ?_
            refine va_get (D := (dC, dI)) (ci := 4) (v := .ref dP) (C := RX4) (T := TX4) (N := 21) hx hb hts (by decide +kernel) hown hK hP 0 rfl rfl 13 (by decide) (hts (.fieldLink RX4 23 "GlulxHeadsModel" "blockAt" "[I") (by decide +kernel)) (fun _ h9 => h9) rfl dX4_block_81 ?_
            refine lv_iload hx hb dX4_block_84 (lv_at hl 4 rfl) ?_
            refine wx_iald hx hb hK hP 2 1 rfl rfl (by omega) (by decide) dX4_block_86 ?_
            refine wx_top (hPl i (by omega)) ?_
            have hbi := hbm i (by omega)
            refine lv_aload_n hx hb dX4_block_87 rfl (lv_at hl 0 rfl) ?_
            refine va_get (D := (dC, dI)) (ci := 4) (v := .ref dS) (C := RX4) (T := TX4) (N := 21) hx hb hts (by decide +kernel) hown hK hP 0 rfl rfl 14 (by decide) (hts (.fieldLink RX4 26 "GlulxHeadsModel" "blockSize" "[I") (by decide +kernel)) (fun _ h9 => h9) rfl dX4_block_88 ?_
            refine lv_iload hx hb dX4_block_91 (lv_at hl 4 rfl) ?_
            refine wx_iald hx hb hK hP 3 1 rfl rfl (by omega) (by decide) dX4_block_93 ?_
            refine wx_top (hLl i (by omega)) ?_
            have hbi := hbm i (by omega)
            refine wx_iadd hx hb dX4_block_94 ?_
            refine lv_istore_n (lv' := [(3, .int (nI ((pl i) + (ll i)))), (0, .ref oD), (1, .int (nI n)), (2, .int (nI hp)), (4, .int (nI i))]) hx hb dX4_block_95 rfl hl (by decide) rfl (fun ls hl => ?_)
            refine lv_iinc (v := nI (i + 1)) (lv' := [(4, .int (nI (i + 1))), (3, .int (nI ((pl i) + (ll i)))), (0, .ref oD), (1, .int (nI n)), (2, .int (nI hp))]) hx hb dX4_block_96 hl (k := 4) rfl (by rw [show Int32.ofInt 1 = nI 1 by decide]; exact nI_add _ _) (by decide) rfl (fun ls hl => ?_)
            refine lv_goto (tgt := 58) hx hb dX4_block_99 (by decide) ?_
            exact ih ((i + 1), ((pl i) + (ll i))) _ _ _ (by omega) ⟨by omega, by omega, (by unfold gapP; rw [if_neg (Nat.succ_ne_zero _)]; rfl), (by rw [heq, gapI_go (by omega) (by omega)]; rfl), hP.sub [0, 1, 2, 3] rfl, hD.sub [0, 1, 2, 3] (by decide) rfl, hS, lv_sub hl [2, 3, 4, 1, 0] rfl⟩
      · skip
        refine lv_aload_n hx hb dX4_block_41 rfl (lv_at hl 0 rfl) ?_
        refine va_get (D := (dC, dI)) (ci := 4) (v := .int (nI mz)) (C := RX4) (T := TX4) (N := 21) hx hb hts (by decide +kernel) hown hK hP 0 rfl rfl 9 (by decide) (hts (.fieldLink RX4 89 "GlulxHeadsModel" "m" "I") (by decide +kernel)) (fun _ h9 => h9) rfl dX4_block_42 ?_
        refine lv_goto (tgt := 52) hx hb dX4_block_45 (by decide) ?_
        refine lv_istore_n (lv' := [(2, .int (nI mz)), (0, .ref oD), (1, .int (nI n))]) hx hb dX4_block_52 rfl hl (by decide) rfl (fun ls hl => ?_)
        refine lv_iload_n hx hb dX4_block_53 rfl (lv_at hl 0 rfl) ?_
        refine lv_istore_n (lv' := [(3, .int (nI mz)), (2, .int (nI mz)), (0, .ref oD), (1, .int (nI n))]) hx hb dX4_block_54 rfl hl (by decide) rfl (fun ls hl => ?_)
        refine lv_iconst (v := nI 0) hx hb dX4_block_55 (by decide) ?_
        refine lv_istore (lv' := [(4, .int (nI 0)), (3, .int (nI mz)), (2, .int (nI mz)), (0, .ref oD), (1, .int (nI n))]) hx hb dX4_block_56 hl (by decide) rfl (fun ls hl => ?_)
        refine wx_loop (σ := Nat × Nat) (fun xq9 => cn - xq9.1) (fun xq9 H locs ls => (xq9.1 ≤ cn) ∧ (xq9.2 ≤ 8192) ∧ (xq9.2 = gapP pl ll mz xq9.1) ∧ (gapI pl ll n cn 0 mz = gapI pl ll n (cn - xq9.1) xq9.1 xq9.2) ∧ va_P (dC, dI) vwCl [(oD, .inr (4, [.int (nI 0), .ref dF, .int (nI len), .int (nI 1), .ref dH, .int (nI sr), .ref dL, .int (nI en), .int (nI ram), .int (nI mz), .ref dM, .int (nI hp), .int (nI cn), .ref dP, .ref dS, .int (nI fk), .int fp, .int (nI ka), .int (nI kn), .int (nI sv), .ref dK])), (dM, .inl (cI, 8192, .inl dm)), (dP, .inl (cI, 16, .inl dp)), (dS, .inl (cI, 16, .inl ds))] H ∧ va_D A [(oD, .inr (4, [.int (nI 0), .ref dF, .int (nI len), .int (nI 1), .ref dH, .int (nI sr), .ref dL, .int (nI en), .int (nI ram), .int (nI mz), .ref dM, .int (nI hp), .int (nI cn), .ref dP, .ref dS, .int (nI fk), .int fp, .int (nI ka), .int (nI kn), .int (nI sv), .ref dK])), (dM, .inl (cI, 8192, .inl dm)), (dP, .inl (cI, 16, .inl dp)), (dS, .inl (cI, 16, .inl ds))] ∧ va_S A s.heap H locs ∧ lv_has ls 6 [(0, .ref oD), (1, .int (nI n)), (2, .int (nI mz)), (3, .int (nI xq9.2)), (4, .int (nI xq9.1))]) ?_ (0, mz) _ _ _ ⟨by omega, by omega, rfl, rfl, hP.sub [0, 1, 2, 3] rfl, hD.sub [0, 1, 2, 3] (by decide) rfl, hS, lv_sub hl [3, 4, 2, 1, 0] rfl⟩
        rintro ⟨i, pos⟩ H locs ls ⟨hi, hps, hpg, heq, hP, hD, hS, hl⟩ ih
        have hi : i ≤ cn := hi
        have hps : pos ≤ 8192 := hps
        have hpg : pos = gapP pl ll mz i := hpg
        have heq : gapI pl ll n cn 0 mz = gapI pl ll n (cn - i) i pos := heq
        have hP : va_P (dC, dI) vwCl [(oD, .inr (4, [.int (nI 0), .ref dF, .int (nI len), .int (nI 1), .ref dH, .int (nI sr), .ref dL, .int (nI en), .int (nI ram), .int (nI mz), .ref dM, .int (nI hp), .int (nI cn), .ref dP, .ref dS, .int (nI fk), .int fp, .int (nI ka), .int (nI kn), .int (nI sv), .ref dK])), (dM, .inl (cI, 8192, .inl dm)), (dP, .inl (cI, 16, .inl dp)), (dS, .inl (cI, 16, .inl ds))] H := hP
        have hD : va_D A [(oD, .inr (4, [.int (nI 0), .ref dF, .int (nI len), .int (nI 1), .ref dH, .int (nI sr), .ref dL, .int (nI en), .int (nI ram), .int (nI mz), .ref dM, .int (nI hp), .int (nI cn), .ref dP, .ref dS, .int (nI fk), .int fp, .int (nI ka), .int (nI kn), .int (nI sv), .ref dK])), (dM, .inl (cI, 8192, .inl dm)), (dP, .inl (cI, 16, .inl dp)), (dS, .inl (cI, 16, .inl ds))] := hD
        have hl : lv_has ls 6 [(0, .ref oD), (1, .int (nI n)), (2, .int (nI mz)), (3, .int (nI pos)), (4, .int (nI i))] := hl
        refine lv_iload hx hb dX4_block_58 (lv_at hl 4 rfl) ?_
        refine lv_aload_n hx hb dX4_block_60 rfl (lv_at hl 0 rfl) ?_
        refine va_get (D := (dC, dI)) (ci := 4) (v := .int (nI cn)) (C := RX4) (T := TX4) (N := 21) hx hb hts (by decide +kernel) hown hK hP 0 rfl rfl 12 (by decide) (hts (.fieldLink RX4 95 "GlulxHeadsModel" "blocks" "I") (by decide +kernel)) (fun _ h9 => h9) rfl dX4_block_61 ?_
        refine wx_icmp_ge (tgt := 102) hx hb dX4_block_64 (by decide) (by omega) (by omega) (fun c_21 => ?_) (fun c_21 => ?_)
        · skip
          have hix : i = gapI pl ll n cn 0 mz := by rw [heq]; first | exact (gapI_hit (by omega) (by omega)).symm | (rw [show cn - i = 0 by omega]; rfl)
          refine lv_iload_n hx hb dX4_block_102 rfl (lv_at hl 1 rfl) ?_
          refine lv_sipush (v := nI 8192) hx hb dX4_block_103 (by decide) ?_
          refine lv_iload_n hx hb dX4_block_106 rfl (lv_at hl 3 rfl) ?_
          refine wx_isub hx hb dX4_block_107 (by omega) ?_
          refine wx_icmp_le (tgt := 113) hx hb dX4_block_108 (by decide) (by omega) (by omega) (fun c_22 => ?_) (fun c_22 => ?_)
          · skip
            refine lv_aload_n hx hb dX4_block_113 rfl (lv_at hl 0 rfl) ?_
            refine va_get (D := (dC, dI)) (ci := 4) (v := .int (nI cn)) (C := RX4) (T := TX4) (N := 21) hx hb hts (by decide +kernel) hown hK hP 0 rfl rfl 12 (by decide) (hts (.fieldLink RX4 95 "GlulxHeadsModel" "blocks" "I") (by decide +kernel)) (fun _ h9 => h9) rfl dX4_block_114 ?_
            refine lv_istore (lv' := [(5, .int (nI cn)), (0, .ref oD), (1, .int (nI n)), (2, .int (nI mz)), (3, .int (nI pos)), (4, .int (nI i))]) hx hb dX4_block_117 hl (by decide) rfl (fun ls hl => ?_)
            refine wx_loop (σ := Nat × (Nat → Int32) × (Nat → Int32)) (fun xq9 => xq9.1) (fun xq9 H locs ls => (i ≤ xq9.1) ∧ (xq9.1 ≤ cn) ∧ (∀ q, q ≤ cn → xq9.2.1 q = if xq9.1 < q then dp (q - 1) else dp q) ∧ (∀ q, q ≤ cn → xq9.2.2 q = if xq9.1 < q then ds (q - 1) else ds q) ∧ va_P (dC, dI) vwCl [(oD, .inr (4, [.int (nI 0), .ref dF, .int (nI len), .int (nI 1), .ref dH, .int (nI sr), .ref dL, .int (nI en), .int (nI ram), .int (nI mz), .ref dM, .int (nI hp), .int (nI cn), .ref dP, .ref dS, .int (nI fk), .int fp, .int (nI ka), .int (nI kn), .int (nI sv), .ref dK])), (dM, .inl (cI, 8192, .inl dm)), (dP, .inl (cI, 16, .inl xq9.2.1)), (dS, .inl (cI, 16, .inl xq9.2.2))] H ∧ va_D A [(oD, .inr (4, [.int (nI 0), .ref dF, .int (nI len), .int (nI 1), .ref dH, .int (nI sr), .ref dL, .int (nI en), .int (nI ram), .int (nI mz), .ref dM, .int (nI hp), .int (nI cn), .ref dP, .ref dS, .int (nI fk), .int fp, .int (nI ka), .int (nI kn), .int (nI sv), .ref dK])), (dM, .inl (cI, 8192, .inl dm)), (dP, .inl (cI, 16, .inl xq9.2.1)), (dS, .inl (cI, 16, .inl xq9.2.2))] ∧ va_S A s.heap H locs ∧ lv_has ls 6 [(0, .ref oD), (1, .int (nI n)), (2, .int (nI mz)), (3, .int (nI pos)), (4, .int (nI i)), (5, .int (nI xq9.1))]) ?_ (cn, dp, ds) _ _ _ ⟨by omega, by omega, fun q hq => by rw [if_neg (by omega)], fun q hq => by rw [if_neg (by omega)], hP.sub [0, 1, 2, 3] rfl, hD.sub [0, 1, 2, 3] (by decide) rfl, hS, lv_sub hl [1, 2, 3, 4, 5, 0] rfl⟩
            rintro ⟨k, P3, L3⟩ H locs ls ⟨hk1, hk2, hP3, hL3, hP, hD, hS, hl⟩ ih
            have hk1 : i ≤ k := hk1
            have hk2 : k ≤ cn := hk2
            have hP3 : ∀ q, q ≤ cn → P3 q = if k < q then dp (q - 1) else dp q := hP3
            have hL3 : ∀ q, q ≤ cn → L3 q = if k < q then ds (q - 1) else ds q := hL3
            have hP : va_P (dC, dI) vwCl [(oD, .inr (4, [.int (nI 0), .ref dF, .int (nI len), .int (nI 1), .ref dH, .int (nI sr), .ref dL, .int (nI en), .int (nI ram), .int (nI mz), .ref dM, .int (nI hp), .int (nI cn), .ref dP, .ref dS, .int (nI fk), .int fp, .int (nI ka), .int (nI kn), .int (nI sv), .ref dK])), (dM, .inl (cI, 8192, .inl dm)), (dP, .inl (cI, 16, .inl P3)), (dS, .inl (cI, 16, .inl L3))] H := hP
            have hD : va_D A [(oD, .inr (4, [.int (nI 0), .ref dF, .int (nI len), .int (nI 1), .ref dH, .int (nI sr), .ref dL, .int (nI en), .int (nI ram), .int (nI mz), .ref dM, .int (nI hp), .int (nI cn), .ref dP, .ref dS, .int (nI fk), .int fp, .int (nI ka), .int (nI kn), .int (nI sv), .ref dK])), (dM, .inl (cI, 8192, .inl dm)), (dP, .inl (cI, 16, .inl P3)), (dS, .inl (cI, 16, .inl L3))] := hD
            have hl : lv_has ls 6 [(0, .ref oD), (1, .int (nI n)), (2, .int (nI mz)), (3, .int (nI pos)), (4, .int (nI i)), (5, .int (nI k))] := hl
            refine lv_iload hx hb dX4_block_119 (lv_at hl 5 rfl) ?_
            refine lv_iload hx hb dX4_block_121 (lv_at hl 4 rfl) ?_
            refine wx_icmp_le (tgt := 164) hx hb dX4_block_123 (by decide) (by omega) (by omega) (fun c_23 => ?_) (fun c_23 => ?_)
            · skip
              refine lv_aload_n hx hb dX4_block_164 rfl (lv_at hl 0 rfl) ?_
              refine va_get (D := (dC, dI)) (ci := 4) (v := .ref dP) (C := RX4) (T := TX4) (N := 21) hx hb hts (by decide +kernel) hown hK hP 0 rfl rfl 13 (by decide) (hts (.fieldLink RX4 23 "GlulxHeadsModel" "blockAt" "[I") (by decide +kernel)) (fun _ h9 => h9) rfl dX4_block_165 ?_
              refine lv_iload hx hb dX4_block_168 (lv_at hl 4 rfl) ?_
              refine lv_iload_n hx hb dX4_block_170 rfl (lv_at hl 3 rfl) ?_
              refine wx_iast hx hb hK hP hD hS 2 1 rfl rfl (by omega) (by decide) dX4_block_171 (fun H locs hP hD hS => ?_)
              have hP : va_P (dC, dI) vwCl [(oD, .inr (4, [.int (nI 0), .ref dF, .int (nI len), .int (nI 1), .ref dH, .int (nI sr), .ref dL, .int (nI en), .int (nI ram), .int (nI mz), .ref dM, .int (nI hp), .int (nI cn), .ref dP, .ref dS, .int (nI fk), .int fp, .int (nI ka), .int (nI kn), .int (nI sv), .ref dK])), (dM, .inl (cI, 8192, .inl dm)), (dP, .inl (cI, 16, .inl (upd P3 i (nI pos)))), (dS, .inl (cI, 16, .inl L3))] H := hP
              have hD : va_D A [(oD, .inr (4, [.int (nI 0), .ref dF, .int (nI len), .int (nI 1), .ref dH, .int (nI sr), .ref dL, .int (nI en), .int (nI ram), .int (nI mz), .ref dM, .int (nI hp), .int (nI cn), .ref dP, .ref dS, .int (nI fk), .int fp, .int (nI ka), .int (nI kn), .int (nI sv), .ref dK])), (dM, .inl (cI, 8192, .inl dm)), (dP, .inl (cI, 16, .inl (upd P3 i (nI pos)))), (dS, .inl (cI, 16, .inl L3))] := hD
              refine lv_aload_n hx hb dX4_block_172 rfl (lv_at hl 0 rfl) ?_
              refine va_get (D := (dC, dI)) (ci := 4) (v := .ref dS) (C := RX4) (T := TX4) (N := 21) hx hb hts (by decide +kernel) hown hK hP 0 rfl rfl 14 (by decide) (hts (.fieldLink RX4 26 "GlulxHeadsModel" "blockSize" "[I") (by decide +kernel)) (fun _ h9 => h9) rfl dX4_block_173 ?_
              refine lv_iload hx hb dX4_block_176 (lv_at hl 4 rfl) ?_
              refine lv_iload_n hx hb dX4_block_178 rfl (lv_at hl 1 rfl) ?_
              refine wx_iast hx hb hK hP hD hS 3 1 rfl rfl (by omega) (by decide) dX4_block_179 (fun H locs hP hD hS => ?_)
              have hP : va_P (dC, dI) vwCl [(oD, .inr (4, [.int (nI 0), .ref dF, .int (nI len), .int (nI 1), .ref dH, .int (nI sr), .ref dL, .int (nI en), .int (nI ram), .int (nI mz), .ref dM, .int (nI hp), .int (nI cn), .ref dP, .ref dS, .int (nI fk), .int fp, .int (nI ka), .int (nI kn), .int (nI sv), .ref dK])), (dM, .inl (cI, 8192, .inl dm)), (dP, .inl (cI, 16, .inl (upd P3 i (nI pos)))), (dS, .inl (cI, 16, .inl (upd L3 i (nI n))))] H := hP
              have hD : va_D A [(oD, .inr (4, [.int (nI 0), .ref dF, .int (nI len), .int (nI 1), .ref dH, .int (nI sr), .ref dL, .int (nI en), .int (nI ram), .int (nI mz), .ref dM, .int (nI hp), .int (nI cn), .ref dP, .ref dS, .int (nI fk), .int fp, .int (nI ka), .int (nI kn), .int (nI sv), .ref dK])), (dM, .inl (cI, 8192, .inl dm)), (dP, .inl (cI, 16, .inl (upd P3 i (nI pos)))), (dS, .inl (cI, 16, .inl (upd L3 i (nI n))))] := hD
              refine lv_aload_n hx hb dX4_block_180 rfl (lv_at hl 0 rfl) ?_
              refine lv_dup hx hb dX4_block_181 rfl ?_
              refine va_get (D := (dC, dI)) (ci := 4) (v := .int (nI cn)) (C := RX4) (T := TX4) (N := 21) hx hb hts (by decide +kernel) hown hK hP 0 rfl rfl 12 (by decide) (hts (.fieldLink RX4 95 "GlulxHeadsModel" "blocks" "I") (by decide +kernel)) (fun _ h9 => h9) rfl dX4_block_182 ?_
              refine lv_iconst (v := nI 1) hx hb dX4_block_185 (by decide) ?_
              refine wx_iadd hx hb dX4_block_186 ?_
              refine va_put (D := (dC, dI)) (ci := 4) (v := .int (nI (cn + 1))) (ty := .int) (C := RX4) (T := TX4) (N := 21) hx hb hts (by decide +kernel) tyX4 tyX4_ok nmX4 hown hK hP hD hS 0 rfl rfl 12 (by decide) (hts (.fieldLink RX4 95 "GlulxHeadsModel" "blocks" "I") (by decide +kernel)) (fun _ h9 => h9) rfl (by decide +kernel) rfl rfl (Nat.le_of_ble_eq_true rfl) dX4_block_187 (fun H locs hP hD hS => ?_)
              have hP : va_P (dC, dI) vwCl [(oD, .inr (4, [.int (nI 0), .ref dF, .int (nI len), .int (nI 1), .ref dH, .int (nI sr), .ref dL, .int (nI en), .int (nI ram), .int (nI mz), .ref dM, .int (nI hp), .int (nI (cn + 1)), .ref dP, .ref dS, .int (nI fk), .int fp, .int (nI ka), .int (nI kn), .int (nI sv), .ref dK])), (dM, .inl (cI, 8192, .inl dm)), (dP, .inl (cI, 16, .inl (upd P3 i (nI pos)))), (dS, .inl (cI, 16, .inl (upd L3 i (nI n))))] H := hP
              have hD : va_D A [(oD, .inr (4, [.int (nI 0), .ref dF, .int (nI len), .int (nI 1), .ref dH, .int (nI sr), .ref dL, .int (nI en), .int (nI ram), .int (nI mz), .ref dM, .int (nI hp), .int (nI (cn + 1)), .ref dP, .ref dS, .int (nI fk), .int fp, .int (nI ka), .int (nI kn), .int (nI sv), .ref dK])), (dM, .inl (cI, 8192, .inl dm)), (dP, .inl (cI, 16, .inl (upd P3 i (nI pos)))), (dS, .inl (cI, 16, .inl (upd L3 i (nI n))))] := hD
              refine lv_aload_n hx hb dX4_block_190 rfl (lv_at hl 0 rfl) ?_
              refine lv_iload_n hx hb dX4_block_191 rfl (lv_at hl 2 rfl) ?_
              refine va_put (D := (dC, dI)) (ci := 4) (v := .int (nI mz)) (ty := .int) (C := RX4) (T := TX4) (N := 21) hx hb hts (by decide +kernel) tyX4 tyX4_ok nmX4 hown hK hP hD hS 0 rfl rfl 11 (by decide) (hts (.fieldLink RX4 92 "GlulxHeadsModel" "heap" "I") (by decide +kernel)) (fun _ h9 => h9) rfl (by decide +kernel) rfl rfl (Nat.le_of_ble_eq_true rfl) dX4_block_192 (fun H locs hP hD hS => ?_)
              have hP : va_P (dC, dI) vwCl [(oD, .inr (4, [.int (nI 0), .ref dF, .int (nI len), .int (nI 1), .ref dH, .int (nI sr), .ref dL, .int (nI en), .int (nI ram), .int (nI mz), .ref dM, .int (nI mz), .int (nI (cn + 1)), .ref dP, .ref dS, .int (nI fk), .int fp, .int (nI ka), .int (nI kn), .int (nI sv), .ref dK])), (dM, .inl (cI, 8192, .inl dm)), (dP, .inl (cI, 16, .inl (upd P3 i (nI pos)))), (dS, .inl (cI, 16, .inl (upd L3 i (nI n))))] H := hP
              have hD : va_D A [(oD, .inr (4, [.int (nI 0), .ref dF, .int (nI len), .int (nI 1), .ref dH, .int (nI sr), .ref dL, .int (nI en), .int (nI ram), .int (nI mz), .ref dM, .int (nI mz), .int (nI (cn + 1)), .ref dP, .ref dS, .int (nI fk), .int fp, .int (nI ka), .int (nI kn), .int (nI sv), .ref dK])), (dM, .inl (cI, 8192, .inl dm)), (dP, .inl (cI, 16, .inl (upd P3 i (nI pos)))), (dS, .inl (cI, 16, .inl (upd L3 i (nI n))))] := hD
              refine lv_iload_n hx hb dX4_block_195 rfl (lv_at hl 3 rfl) ?_
              refine lv_iload_n hx hb dX4_block_196 rfl (lv_at hl 1 rfl) ?_
              refine wx_iadd hx hb dX4_block_197 ?_
              refine lv_sipush (v := nI 255) hx hb dX4_block_198 (by decide) ?_
              refine wx_iadd hx hb dX4_block_201 ?_
              refine lv_sipush (v := nI 256) hx hb dX4_block_202 (by decide) ?_
              refine wx_idiv hx hb dX4_block_205 (by omega) (by omega) (by omega) ?_
              refine lv_sipush (v := nI 256) hx hb dX4_block_206 (by decide) ?_
              refine wx_imul hx hb dX4_block_209 ?_
              refine lv_istore (lv' := [(5, .int (nI ((((pos + n) + 255) / 256) * 256))), (0, .ref oD), (1, .int (nI n)), (2, .int (nI mz)), (3, .int (nI pos)), (4, .int (nI i))]) hx hb dX4_block_210 hl (by decide) rfl (fun ls hl => ?_)
              refine lv_iload hx hb dX4_block_212 (lv_at hl 0 rfl) ?_
              refine lv_aload_n hx hb dX4_block_214 rfl (lv_at hl 1 rfl) ?_
              refine va_get (D := (dC, dI)) (ci := 4) (v := .int (nI mz)) (C := RX4) (T := TX4) (N := 21) hx hb hts (by decide +kernel) hown hK hP 0 rfl rfl 9 (by decide) (hts (.fieldLink RX4 89 "GlulxHeadsModel" "m" "I") (by decide +kernel)) (fun _ h9 => h9) rfl dX4_block_215 ?_
              refine wx_icmp_le (tgt := 227) hx hb dX4_block_218 (by decide) (by omega) (by omega) (fun c_24 => ?_) (fun c_24 => ?_)
              · skip
                refine lv_iload_n hx hb dX4_block_227 rfl (lv_at hl 4 rfl) ?_
                have hP9 := hP.sub (ws' := [(oD, .inr (4, [.int (nI 0), .ref dF, .int (nI len), .int (nI 1), .ref dH, .int (nI sr), .ref dL, .int (nI en), .int (nI ram), .int (nI mz), .ref dM, .int (nI mz), .int (nI (cn + 1)), .ref dP, .ref dS, .int (nI fk), .int fp, .int (nI ka), .int (nI kn), .int (nI sv), .ref dK])), (dM, .inl (cI, 8192, .inl dm)), (dP, .inl (cI, 16, .inl (upd P3 i (nI pos)))), (dS, .inl (cI, 16, .inl (upd L3 i (nI n))))]) [0, 1, 2, 3] rfl
                have hD9 := hD.sub (ws' := [(oD, .inr (4, [.int (nI 0), .ref dF, .int (nI len), .int (nI 1), .ref dH, .int (nI sr), .ref dL, .int (nI en), .int (nI ram), .int (nI mz), .ref dM, .int (nI mz), .int (nI (cn + 1)), .ref dP, .ref dS, .int (nI fk), .int fp, .int (nI ka), .int (nI kn), .int (nI sv), .ref dK])), (dM, .inl (cI, 8192, .inl dm)), (dP, .inl (cI, 16, .inl (upd P3 i (nI pos)))), (dS, .inl (cI, 16, .inl (upd L3 i (nI n))))]) [0, 1, 2, 3] (by decide) rfl
                exact W.iret (v := nI pos) hx hb hr (fun t ht hW => ⟨⟨(nI pos), (dm, mz, (cn + 1), mz, (upd P3 i (nI pos)), (upd L3 i (nI n))), rfl, mblk_ok (st := mz) (i := i) (pos := pos) hnT hnE (by omega) (by unfold blkS; split <;> omega) hix hpg (by omega) (by omega) hPl hLl (shift_in hi (by omega) hP3) (shift_in hi (by omega) hL3) hm (by unfold rup; dsimp only; omega), by rw [ht]; exact hP9, hD9⟩, hS.F ht⟩) hS.2.2 dX4_block_228
              · skip
                refine lv_aload_n hx hb dX4_block_221 rfl (lv_at hl 1 rfl) ?_
                refine lv_iload hx hb dX4_block_222 (lv_at hl 0 rfl) ?_
                have hPc := hP.sub (ws' := [(oD, .inr (4, [.int (nI 0), .ref dF, .int (nI len), .int (nI 1), .ref dH, .int (nI sr), .ref dL, .int (nI en), .int (nI ram), .int (nI mz), .ref dM, .int (nI mz), .int (nI (cn + 1)), .ref dP, .ref dS, .int (nI fk), .int fp, .int (nI ka), .int (nI kn), .int (nI sv), .ref dK])), (dM, .inl (cI, 8192, .inl dm))]) [0, 1] rfl
                have hDc := hD.sub (ws' := [(oD, .inr (4, [.int (nI 0), .ref dF, .int (nI len), .int (nI 1), .ref dH, .int (nI sr), .ref dL, .int (nI en), .int (nI ram), .int (nI mz), .ref dM, .int (nI mz), .int (nI (cn + 1)), .ref dP, .ref dS, .int (nI fk), .int fp, .int (nI ka), .int (nI kn), .int (nI sv), .ref dK])), (dM, .inl (cI, 8192, .inl dm))]) [0, 1] (by decide) rfl
                have hFc := va_free (wc := [(oD, .inr (4, [.int (nI 0), .ref dF, .int (nI len), .int (nI 1), .ref dH, .int (nI sr), .ref dL, .int (nI en), .int (nI ram), .int (nI mz), .ref dM, .int (nI mz), .int (nI (cn + 1)), .ref dP, .ref dS, .int (nI fk), .int fp, .int (nI ka), .int (nI kn), .int (nI sv), .ref dK])), (dM, .inl (cI, 8192, .inl dm))]) hD hS hA [0, 1] rfl
                refine va_callv (va_runV (As := [.int (nI ((((pos + n) + 255) / 256) * 256))]) (rest := []) ⟨hx, hb, hml, hown, hts⟩ (c_X4_grow l dC dI cB cI cJ H.size oD 0 dF len 1 dH sr dL en ram mz dM mz (cn + 1) dP dS fk fp ka kn sv dK dm mem ((((pos + n) + 255) / 256) * 256) (by omega) hm hmem hz (by omega)) (cwV 1 hts gX4_block_X4_grow rfl rfl rfl (by decide +kernel) ⟨Nat.le_of_ble_eq_true rfl, Nat.le_of_ble_eq_true rfl⟩) ⟨wBlind, va_recv hK hPc (ci := 4) (q0 := 0) rfl rfl, wGo hK hPc hDc hN⟩ rfl rfl hl.1 rfl (lv_room (Nat.le_of_ble_eq_true rfl)) dX4_block_224 ⟨show 0 ≤ 0 by decide, show 0 ≤ 0 by decide⟩) hS (fun q _ h => hFc q h) hFc (fun u t H1 locs ht hvm w_27 hB hz1 hk1 hS => ?_)
                obtain ⟨dm2_28, rfl⟩ : ∃ z, z = u := ⟨_, rfl⟩
                obtain ⟨hP1, hD1⟩ := hB
                rw [ht] at hP1
                try dsimp only at w_27
                obtain ⟨hP, hD⟩ := va_join (wr := [(dP, .inl (cI, 16, .inl (upd P3 i (nI pos)))), (dS, .inl (cI, 16, .inl (upd L3 i (nI n))))]) (w1 := [(oD, .inr (4, [.int (nI 0), .ref dF, .int (nI len), .int (nI 1), .ref dH, .int (nI sr), .ref dL, .int (nI en), .int (nI ram), .int (nI ((((pos + n) + 255) / 256) * 256)), .ref dM, .int (nI mz), .int (nI (cn + 1)), .ref dP, .ref dS, .int (nI fk), .int fp, .int (nI ka), .int (nI kn), .int (nI sv), .ref dK])), (dM, .inl (cI, 8192, .inl dm2_28))]) hP hD [0, 1] [2, 3] rfl rfl (by decide) (by decide) hk1 hFc hP1 hD1
                clear hPc hDc hFc hP1 hD1 hz1 hk1 hvm
                generalize H1 = H at hP hS ⊢
                have hP : va_P (dC, dI) vwCl [(dP, .inl (cI, 16, .inl (upd P3 i (nI pos)))), (dS, .inl (cI, 16, .inl (upd L3 i (nI n)))), (oD, .inr (4, [.int (nI 0), .ref dF, .int (nI len), .int (nI 1), .ref dH, .int (nI sr), .ref dL, .int (nI en), .int (nI ram), .int (nI ((((pos + n) + 255) / 256) * 256)), .ref dM, .int (nI mz), .int (nI (cn + 1)), .ref dP, .ref dS, .int (nI fk), .int fp, .int (nI ka), .int (nI kn), .int (nI sv), .ref dK])), (dM, .inl (cI, 8192, .inl dm2_28))] H := hP
                have hD : va_D A [(dP, .inl (cI, 16, .inl (upd P3 i (nI pos)))), (dS, .inl (cI, 16, .inl (upd L3 i (nI n)))), (oD, .inr (4, [.int (nI 0), .ref dF, .int (nI len), .int (nI 1), .ref dH, .int (nI sr), .ref dL, .int (nI en), .int (nI ram), .int (nI ((((pos + n) + 255) / 256) * 256)), .ref dM, .int (nI mz), .int (nI (cn + 1)), .ref dP, .ref dS, .int (nI fk), .int fp, .int (nI ka), .int (nI kn), .int (nI sv), .ref dK])), (dM, .inl (cI, 8192, .inl dm2_28))] := hD
                refine lv_iload_n hx hb dX4_block_227 rfl (lv_at hl 4 rfl) ?_
                have hP9 := hP.sub (ws' := [(oD, .inr (4, [.int (nI 0), .ref dF, .int (nI len), .int (nI 1), .ref dH, .int (nI sr), .ref dL, .int (nI en), .int (nI ram), .int (nI ((((pos + n) + 255) / 256) * 256)), .ref dM, .int (nI mz), .int (nI (cn + 1)), .ref dP, .ref dS, .int (nI fk), .int fp, .int (nI ka), .int (nI kn), .int (nI sv), .ref dK])), (dM, .inl (cI, 8192, .inl dm2_28)), (dP, .inl (cI, 16, .inl (upd P3 i (nI pos)))), (dS, .inl (cI, 16, .inl (upd L3 i (nI n))))]) [2, 3, 0, 1] rfl
                have hD9 := hD.sub (ws' := [(oD, .inr (4, [.int (nI 0), .ref dF, .int (nI len), .int (nI 1), .ref dH, .int (nI sr), .ref dL, .int (nI en), .int (nI ram), .int (nI ((((pos + n) + 255) / 256) * 256)), .ref dM, .int (nI mz), .int (nI (cn + 1)), .ref dP, .ref dS, .int (nI fk), .int fp, .int (nI ka), .int (nI kn), .int (nI sv), .ref dK])), (dM, .inl (cI, 8192, .inl dm2_28)), (dP, .inl (cI, 16, .inl (upd P3 i (nI pos)))), (dS, .inl (cI, 16, .inl (upd L3 i (nI n))))]) [2, 3, 0, 1] (by decide) rfl
                exact W.iret (v := nI pos) hx hb hr (fun t ht hW => ⟨⟨(nI pos), (dm2_28, ((((pos + n) + 255) / 256) * 256), (cn + 1), mz, (upd P3 i (nI pos)), (upd L3 i (nI n))), rfl, mblk_ok (st := mz) (i := i) (pos := pos) hnT hnE (by omega) (by unfold blkS; split <;> omega) hix hpg (by omega) (by omega) hPl hLl (shift_in hi (by omega) hP3) (shift_in hi (by omega) hL3) (gOk_eq w_27 (fun j hj => by unfold cutM; rw [if_pos hj])) (by unfold rup; dsimp only; omega), by rw [ht]; exact hP9, hD9⟩, hS.F ht⟩) hS.2.2 dX4_block_228
            · skip
              refine lv_aload_n hx hb dX4_block_126 rfl (lv_at hl 0 rfl) ?_
              refine va_get (D := (dC, dI)) (ci := 4) (v := .ref dP) (C := RX4) (T := TX4) (N := 21) hx hb hts (by decide +kernel) hown hK hP 0 rfl rfl 13 (by decide) (hts (.fieldLink RX4 23 "GlulxHeadsModel" "blockAt" "[I") (by decide +kernel)) (fun _ h9 => h9) rfl dX4_block_127 ?_
              refine lv_iload hx hb dX4_block_130 (lv_at hl 5 rfl) ?_
              refine lv_aload_n hx hb dX4_block_132 rfl (lv_at hl 0 rfl) ?_
              refine va_get (D := (dC, dI)) (ci := 4) (v := .ref dP) (C := RX4) (T := TX4) (N := 21) hx hb hts (by decide +kernel) hown hK hP 0 rfl rfl 13 (by decide) (hts (.fieldLink RX4 23 "GlulxHeadsModel" "blockAt" "[I") (by decide +kernel)) (fun _ h9 => h9) rfl dX4_block_133 ?_
              refine lv_iload hx hb dX4_block_136 (lv_at hl 5 rfl) ?_
              refine lv_iconst (v := nI 1) hx hb dX4_block_138 (by decide) ?_
              refine wx_isub hx hb dX4_block_139 (by omega) ?_
              refine wx_iald hx hb hK hP 2 1 rfl rfl (by omega) (by decide) dX4_block_140 ?_
              refine wx_iast hx hb hK hP hD hS 2 1 rfl rfl (by omega) (by decide) dX4_block_141 (fun H locs hP hD hS => ?_)
              have hP : va_P (dC, dI) vwCl [(oD, .inr (4, [.int (nI 0), .ref dF, .int (nI len), .int (nI 1), .ref dH, .int (nI sr), .ref dL, .int (nI en), .int (nI ram), .int (nI mz), .ref dM, .int (nI hp), .int (nI cn), .ref dP, .ref dS, .int (nI fk), .int fp, .int (nI ka), .int (nI kn), .int (nI sv), .ref dK])), (dM, .inl (cI, 8192, .inl dm)), (dP, .inl (cI, 16, .inl (upd P3 k (P3 (k - 1))))), (dS, .inl (cI, 16, .inl L3))] H := hP
              have hD : va_D A [(oD, .inr (4, [.int (nI 0), .ref dF, .int (nI len), .int (nI 1), .ref dH, .int (nI sr), .ref dL, .int (nI en), .int (nI ram), .int (nI mz), .ref dM, .int (nI hp), .int (nI cn), .ref dP, .ref dS, .int (nI fk), .int fp, .int (nI ka), .int (nI kn), .int (nI sv), .ref dK])), (dM, .inl (cI, 8192, .inl dm)), (dP, .inl (cI, 16, .inl (upd P3 k (P3 (k - 1))))), (dS, .inl (cI, 16, .inl L3))] := hD
              refine lv_aload_n hx hb dX4_block_142 rfl (lv_at hl 0 rfl) ?_
              refine va_get (D := (dC, dI)) (ci := 4) (v := .ref dS) (C := RX4) (T := TX4) (N := 21) hx hb hts (by decide +kernel) hown hK hP 0 rfl rfl 14 (by decide) (hts (.fieldLink RX4 26 "GlulxHeadsModel" "blockSize" "[I") (by decide +kernel)) (fun _ h9 => h9) rfl dX4_block_143 ?_
              refine lv_iload hx hb dX4_block_146 (lv_at hl 5 rfl) ?_
              refine lv_aload_n hx hb dX4_block_148 rfl (lv_at hl 0 rfl) ?_
              refine va_get (D := (dC, dI)) (ci := 4) (v := .ref dS) (C := RX4) (T := TX4) (N := 21) hx hb hts (by decide +kernel) hown hK hP 0 rfl rfl 14 (by decide) (hts (.fieldLink RX4 26 "GlulxHeadsModel" "blockSize" "[I") (by decide +kernel)) (fun _ h9 => h9) rfl dX4_block_149 ?_
              refine lv_iload hx hb dX4_block_152 (lv_at hl 5 rfl) ?_
              refine lv_iconst (v := nI 1) hx hb dX4_block_154 (by decide) ?_
              refine wx_isub hx hb dX4_block_155 (by omega) ?_
              refine wx_iald hx hb hK hP 3 1 rfl rfl (by omega) (by decide) dX4_block_156 ?_
              refine wx_iast hx hb hK hP hD hS 3 1 rfl rfl (by omega) (by decide) dX4_block_157 (fun H locs hP hD hS => ?_)
              have hP : va_P (dC, dI) vwCl [(oD, .inr (4, [.int (nI 0), .ref dF, .int (nI len), .int (nI 1), .ref dH, .int (nI sr), .ref dL, .int (nI en), .int (nI ram), .int (nI mz), .ref dM, .int (nI hp), .int (nI cn), .ref dP, .ref dS, .int (nI fk), .int fp, .int (nI ka), .int (nI kn), .int (nI sv), .ref dK])), (dM, .inl (cI, 8192, .inl dm)), (dP, .inl (cI, 16, .inl (upd P3 k (P3 (k - 1))))), (dS, .inl (cI, 16, .inl (upd L3 k (L3 (k - 1)))))] H := hP
              have hD : va_D A [(oD, .inr (4, [.int (nI 0), .ref dF, .int (nI len), .int (nI 1), .ref dH, .int (nI sr), .ref dL, .int (nI en), .int (nI ram), .int (nI mz), .ref dM, .int (nI hp), .int (nI cn), .ref dP, .ref dS, .int (nI fk), .int fp, .int (nI ka), .int (nI kn), .int (nI sv), .ref dK])), (dM, .inl (cI, 8192, .inl dm)), (dP, .inl (cI, 16, .inl (upd P3 k (P3 (k - 1))))), (dS, .inl (cI, 16, .inl (upd L3 k (L3 (k - 1)))))] := hD
              refine lv_iinc (v := nI (k - 1)) (lv' := [(5, .int (nI (k - 1))), (0, .ref oD), (1, .int (nI n)), (2, .int (nI mz)), (3, .int (nI pos)), (4, .int (nI i))]) hx hb dX4_block_158 hl (k := 5) rfl (by rw [show Int32.ofInt (-1) = -1 by decide]; exact sb_m1 (by omega)) (by decide) rfl (fun ls hl => ?_)
              refine lv_goto (tgt := 119) hx hb dX4_block_161 (by decide) ?_
              exact ih ((k - 1), (upd P3 k (P3 (k - 1))), (upd L3 k (L3 (k - 1)))) _ _ _ (by omega) ⟨by omega, by omega, shift_up hk1 hk2 (by omega) hP3, shift_up hk1 hk2 (by omega) hL3, hP.sub [0, 1, 2, 3] rfl, hD.sub [0, 1, 2, 3] (by decide) rfl, hS, lv_sub hl [1, 2, 3, 4, 5, 0] rfl⟩
          · skip
            refine lv_iconst (v := nI 0) hx hb dX4_block_111 (by decide) ?_
            have hP9 := hP.sub (ws' := [(oD, .inr (4, [.int (nI 0), .ref dF, .int (nI len), .int (nI 1), .ref dH, .int (nI sr), .ref dL, .int (nI en), .int (nI ram), .int (nI mz), .ref dM, .int (nI hp), .int (nI cn), .ref dP, .ref dS, .int (nI fk), .int fp, .int (nI ka), .int (nI kn), .int (nI sv), .ref dK])), (dM, .inl (cI, 8192, .inl dm)), (dP, .inl (cI, 16, .inl dp)), (dS, .inl (cI, 16, .inl ds))]) [0, 1, 2, 3] rfl
            have hD9 := hD.sub (ws' := [(oD, .inr (4, [.int (nI 0), .ref dF, .int (nI len), .int (nI 1), .ref dH, .int (nI sr), .ref dL, .int (nI en), .int (nI ram), .int (nI mz), .ref dM, .int (nI hp), .int (nI cn), .ref dP, .ref dS, .int (nI fk), .int fp, .int (nI ka), .int (nI kn), .int (nI sv), .ref dK])), (dM, .inl (cI, 8192, .inl dm)), (dP, .inl (cI, 16, .inl dp)), (dS, .inl (cI, 16, .inl ds))]) [0, 1, 2, 3] (by decide) rfl
            exact W.iret (v := nI 0) hx hb hr (fun t ht hW => ⟨⟨(nI 0), (dm, mz, cn, hp, dp, ds), rfl, mblk_no2 (st := mz) (i := i) (pos := pos) hnT hnE (by omega) (by unfold blkS; split <;> omega) hix hpg (by omega) hm hPl hLl, by rw [ht]; exact hP9, hD9⟩, hS.F ht⟩) hS.2.2 dX4_block_112
        · skip
          refine lv_aload_n hx hb dX4_block_67 rfl (lv_at hl 0 rfl) ?_
          refine va_get (D := (dC, dI)) (ci := 4) (v := .ref dP) (C := RX4) (T := TX4) (N := 21) hx hb hts (by decide +kernel) hown hK hP 0 rfl rfl 13 (by decide) (hts (.fieldLink RX4 23 "GlulxHeadsModel" "blockAt" "[I") (by decide +kernel)) (fun _ h9 => h9) rfl dX4_block_68 ?_
          refine lv_iload hx hb dX4_block_71 (lv_at hl 4 rfl) ?_
          refine wx_iald hx hb hK hP 2 1 rfl rfl (by omega) (by decide) dX4_block_73 ?_
          refine wx_top (hPl i (by omega)) ?_
          have hbi := hbm i (by omega)
          refine lv_iload_n hx hb dX4_block_74 rfl (lv_at hl 3 rfl) ?_
          refine lv_isub hx hb dX4_block_75 ?_
          refine lv_iload_n hx hb dX4_block_76 rfl (lv_at hl 1 rfl) ?_
          refine lv_icmp_ge (tgt := 102) hx hb dX4_block_77 (by decide) (fun c_29 => ?_) (fun c_29 => ?_)
          · skip
            rw [Int32.le_iff_toInt_le, pk_sub_toInt (a := pl i) (b := pos) (by omega) (by omega), nI_toInt (n := n) (by omega)] at c_29
            have hix : i = gapI pl ll n cn 0 mz := by rw [heq]; first | exact (gapI_hit (by omega) (by omega)).symm | (rw [show cn - i = 0 by omega]; rfl)
            refine lv_iload_n hx hb dX4_block_102 rfl (lv_at hl 1 rfl) ?_
            refine lv_sipush (v := nI 8192) hx hb dX4_block_103 (by decide) ?_
            refine lv_iload_n hx hb dX4_block_106 rfl (lv_at hl 3 rfl) ?_
            refine wx_isub hx hb dX4_block_107 (by omega) ?_
            refine wx_icmp_le (tgt := 113) hx hb dX4_block_108 (by decide) (by omega) (by omega) (fun c_30 => ?_) (fun c_30 => ?_)
            · skip
              refine lv_aload_n hx hb dX4_block_113 rfl (lv_at hl 0 rfl) ?_
              refine va_get (D := (dC, dI)) (ci := 4) (v := .int (nI cn)) (C := RX4) (T := TX4) (N := 21) hx hb hts (by decide +kernel) hown hK hP 0 rfl rfl 12 (by decide) (hts (.fieldLink RX4 95 "GlulxHeadsModel" "blocks" "I") (by decide +kernel)) (fun _ h9 => h9) rfl dX4_block_114 ?_
              refine lv_istore (lv' := [(5, .int (nI cn)), (0, .ref oD), (1, .int (nI n)), (2, .int (nI mz)), (3, .int (nI pos)), (4, .int (nI i))]) hx hb dX4_block_117 hl (by decide) rfl (fun ls hl => ?_)
              refine wx_loop (σ := Nat × (Nat → Int32) × (Nat → Int32)) (fun xq9 => xq9.1) (fun xq9 H locs ls => (i ≤ xq9.1) ∧ (xq9.1 ≤ cn) ∧ (∀ q, q ≤ cn → xq9.2.1 q = if xq9.1 < q then dp (q - 1) else dp q) ∧ (∀ q, q ≤ cn → xq9.2.2 q = if xq9.1 < q then ds (q - 1) else ds q) ∧ va_P (dC, dI) vwCl [(oD, .inr (4, [.int (nI 0), .ref dF, .int (nI len), .int (nI 1), .ref dH, .int (nI sr), .ref dL, .int (nI en), .int (nI ram), .int (nI mz), .ref dM, .int (nI hp), .int (nI cn), .ref dP, .ref dS, .int (nI fk), .int fp, .int (nI ka), .int (nI kn), .int (nI sv), .ref dK])), (dM, .inl (cI, 8192, .inl dm)), (dP, .inl (cI, 16, .inl xq9.2.1)), (dS, .inl (cI, 16, .inl xq9.2.2))] H ∧ va_D A [(oD, .inr (4, [.int (nI 0), .ref dF, .int (nI len), .int (nI 1), .ref dH, .int (nI sr), .ref dL, .int (nI en), .int (nI ram), .int (nI mz), .ref dM, .int (nI hp), .int (nI cn), .ref dP, .ref dS, .int (nI fk), .int fp, .int (nI ka), .int (nI kn), .int (nI sv), .ref dK])), (dM, .inl (cI, 8192, .inl dm)), (dP, .inl (cI, 16, .inl xq9.2.1)), (dS, .inl (cI, 16, .inl xq9.2.2))] ∧ va_S A s.heap H locs ∧ lv_has ls 6 [(0, .ref oD), (1, .int (nI n)), (2, .int (nI mz)), (3, .int (nI pos)), (4, .int (nI i)), (5, .int (nI xq9.1))]) ?_ (cn, dp, ds) _ _ _ ⟨by omega, by omega, fun q hq => by rw [if_neg (by omega)], fun q hq => by rw [if_neg (by omega)], hP.sub [0, 1, 2, 3] rfl, hD.sub [0, 1, 2, 3] (by decide) rfl, hS, lv_sub hl [1, 2, 3, 4, 5, 0] rfl⟩
              rintro ⟨k, P3, L3⟩ H locs ls ⟨hk1, hk2, hP3, hL3, hP, hD, hS, hl⟩ ih
              have hk1 : i ≤ k := hk1
              have hk2 : k ≤ cn := hk2
              have hP3 : ∀ q, q ≤ cn → P3 q = if k < q then dp (q - 1) else dp q := hP3
              have hL3 : ∀ q, q ≤ cn → L3 q = if k < q then ds (q - 1) else ds q := hL3
              have hP : va_P (dC, dI) vwCl [(oD, .inr (4, [.int (nI 0), .ref dF, .int (nI len), .int (nI 1), .ref dH, .int (nI sr), .ref dL, .int (nI en), .int (nI ram), .int (nI mz), .ref dM, .int (nI hp), .int (nI cn), .ref dP, .ref dS, .int (nI fk), .int fp, .int (nI ka), .int (nI kn), .int (nI sv), .ref dK])), (dM, .inl (cI, 8192, .inl dm)), (dP, .inl (cI, 16, .inl P3)), (dS, .inl (cI, 16, .inl L3))] H := hP
              have hD : va_D A [(oD, .inr (4, [.int (nI 0), .ref dF, .int (nI len), .int (nI 1), .ref dH, .int (nI sr), .ref dL, .int (nI en), .int (nI ram), .int (nI mz), .ref dM, .int (nI hp), .int (nI cn), .ref dP, .ref dS, .int (nI fk), .int fp, .int (nI ka), .int (nI kn), .int (nI sv), .ref dK])), (dM, .inl (cI, 8192, .inl dm)), (dP, .inl (cI, 16, .inl P3)), (dS, .inl (cI, 16, .inl L3))] := hD
              have hl : lv_has ls 6 [(0, .ref oD), (1, .int (nI n)), (2, .int (nI mz)), (3, .int (nI pos)), (4, .int (nI i)), (5, .int (nI k))] := hl
              refine lv_iload hx hb dX4_block_119 (lv_at hl 5 rfl) ?_
              refine lv_iload hx hb dX4_block_121 (lv_at hl 4 rfl) ?_
              refine wx_icmp_le (tgt := 164) hx hb dX4_block_123 (by decide) (by omega) (by omega) (fun c_31 => ?_) (fun c_31 => ?_)
              · skip
                refine lv_aload_n hx hb dX4_block_164 rfl (lv_at hl 0 rfl) ?_
                refine va_get (D := (dC, dI)) (ci := 4) (v := .ref dP) (C := RX4) (T := TX4) (N := 21) hx hb hts (by decide +kernel) hown hK hP 0 rfl rfl 13 (by decide) (hts (.fieldLink RX4 23 "GlulxHeadsModel" "blockAt" "[I") (by decide +kernel)) (fun _ h9 => h9) rfl dX4_block_165 ?_
                refine lv_iload hx hb dX4_block_168 (lv_at hl 4 rfl) ?_
                refine lv_iload_n hx hb dX4_block_170 rfl (lv_at hl 3 rfl) ?_
                refine wx_iast hx hb hK hP hD hS 2 1 rfl rfl (by omega) (by decide) dX4_block_171 (fun H locs hP hD hS => ?_)
                have hP : va_P (dC, dI) vwCl [(oD, .inr (4, [.int (nI 0), .ref dF, .int (nI len), .int (nI 1), .ref dH, .int (nI sr), .ref dL, .int (nI en), .int (nI ram), .int (nI mz), .ref dM, .int (nI hp), .int (nI cn), .ref dP, .ref dS, .int (nI fk), .int fp, .int (nI ka), .int (nI kn), .int (nI sv), .ref dK])), (dM, .inl (cI, 8192, .inl dm)), (dP, .inl (cI, 16, .inl (upd P3 i (nI pos)))), (dS, .inl (cI, 16, .inl L3))] H := hP
                have hD : va_D A [(oD, .inr (4, [.int (nI 0), .ref dF, .int (nI len), .int (nI 1), .ref dH, .int (nI sr), .ref dL, .int (nI en), .int (nI ram), .int (nI mz), .ref dM, .int (nI hp), .int (nI cn), .ref dP, .ref dS, .int (nI fk), .int fp, .int (nI ka), .int (nI kn), .int (nI sv), .ref dK])), (dM, .inl (cI, 8192, .inl dm)), (dP, .inl (cI, 16, .inl (upd P3 i (nI pos)))), (dS, .inl (cI, 16, .inl L3))] := hD
                refine lv_aload_n hx hb dX4_block_172 rfl (lv_at hl 0 rfl) ?_
                refine va_get (D := (dC, dI)) (ci := 4) (v := .ref dS) (C := RX4) (T := TX4) (N := 21) hx hb hts (by decide +kernel) hown hK hP 0 rfl rfl 14 (by decide) (hts (.fieldLink RX4 26 "GlulxHeadsModel" "blockSize" "[I") (by decide +kernel)) (fun _ h9 => h9) rfl dX4_block_173 ?_
                refine lv_iload hx hb dX4_block_176 (lv_at hl 4 rfl) ?_
                refine lv_iload_n hx hb dX4_block_178 rfl (lv_at hl 1 rfl) ?_
                refine wx_iast hx hb hK hP hD hS 3 1 rfl rfl (by omega) (by decide) dX4_block_179 (fun H locs hP hD hS => ?_)
                have hP : va_P (dC, dI) vwCl [(oD, .inr (4, [.int (nI 0), .ref dF, .int (nI len), .int (nI 1), .ref dH, .int (nI sr), .ref dL, .int (nI en), .int (nI ram), .int (nI mz), .ref dM, .int (nI hp), .int (nI cn), .ref dP, .ref dS, .int (nI fk), .int fp, .int (nI ka), .int (nI kn), .int (nI sv), .ref dK])), (dM, .inl (cI, 8192, .inl dm)), (dP, .inl (cI, 16, .inl (upd P3 i (nI pos)))), (dS, .inl (cI, 16, .inl (upd L3 i (nI n))))] H := hP
                have hD : va_D A [(oD, .inr (4, [.int (nI 0), .ref dF, .int (nI len), .int (nI 1), .ref dH, .int (nI sr), .ref dL, .int (nI en), .int (nI ram), .int (nI mz), .ref dM, .int (nI hp), .int (nI cn), .ref dP, .ref dS, .int (nI fk), .int fp, .int (nI ka), .int (nI kn), .int (nI sv), .ref dK])), (dM, .inl (cI, 8192, .inl dm)), (dP, .inl (cI, 16, .inl (upd P3 i (nI pos)))), (dS, .inl (cI, 16, .inl (upd L3 i (nI n))))] := hD
                refine lv_aload_n hx hb dX4_block_180 rfl (lv_at hl 0 rfl) ?_
                refine lv_dup hx hb dX4_block_181 rfl ?_
                refine va_get (D := (dC, dI)) (ci := 4) (v := .int (nI cn)) (C := RX4) (T := TX4) (N := 21) hx hb hts (by decide +kernel) hown hK hP 0 rfl rfl 12 (by decide) (hts (.fieldLink RX4 95 "GlulxHeadsModel" "blocks" "I") (by decide +kernel)) (fun _ h9 => h9) rfl dX4_block_182 ?_
                refine lv_iconst (v := nI 1) hx hb dX4_block_185 (by decide) ?_
                refine wx_iadd hx hb dX4_block_186 ?_
                refine va_put (D := (dC, dI)) (ci := 4) (v := .int (nI (cn + 1))) (ty := .int) (C := RX4) (T := TX4) (N := 21) hx hb hts (by decide +kernel) tyX4 tyX4_ok nmX4 hown hK hP hD hS 0 rfl rfl 12 (by decide) (hts (.fieldLink RX4 95 "GlulxHeadsModel" "blocks" "I") (by decide +kernel)) (fun _ h9 => h9) rfl (by decide +kernel) rfl rfl (Nat.le_of_ble_eq_true rfl) dX4_block_187 (fun H locs hP hD hS => ?_)
                have hP : va_P (dC, dI) vwCl [(oD, .inr (4, [.int (nI 0), .ref dF, .int (nI len), .int (nI 1), .ref dH, .int (nI sr), .ref dL, .int (nI en), .int (nI ram), .int (nI mz), .ref dM, .int (nI hp), .int (nI (cn + 1)), .ref dP, .ref dS, .int (nI fk), .int fp, .int (nI ka), .int (nI kn), .int (nI sv), .ref dK])), (dM, .inl (cI, 8192, .inl dm)), (dP, .inl (cI, 16, .inl (upd P3 i (nI pos)))), (dS, .inl (cI, 16, .inl (upd L3 i (nI n))))] H := hP
                have hD : va_D A [(oD, .inr (4, [.int (nI 0), .ref dF, .int (nI len), .int (nI 1), .ref dH, .int (nI sr), .ref dL, .int (nI en), .int (nI ram), .int (nI mz), .ref dM, .int (nI hp), .int (nI (cn + 1)), .ref dP, .ref dS, .int (nI fk), .int fp, .int (nI ka), .int (nI kn), .int (nI sv), .ref dK])), (dM, .inl (cI, 8192, .inl dm)), (dP, .inl (cI, 16, .inl (upd P3 i (nI pos)))), (dS, .inl (cI, 16, .inl (upd L3 i (nI n))))] := hD
                refine lv_aload_n hx hb dX4_block_190 rfl (lv_at hl 0 rfl) ?_
                refine lv_iload_n hx hb dX4_block_191 rfl (lv_at hl 2 rfl) ?_
                refine va_put (D := (dC, dI)) (ci := 4) (v := .int (nI mz)) (ty := .int) (C := RX4) (T := TX4) (N := 21) hx hb hts (by decide +kernel) tyX4 tyX4_ok nmX4 hown hK hP hD hS 0 rfl rfl 11 (by decide) (hts (.fieldLink RX4 92 "GlulxHeadsModel" "heap" "I") (by decide +kernel)) (fun _ h9 => h9) rfl (by decide +kernel) rfl rfl (Nat.le_of_ble_eq_true rfl) dX4_block_192 (fun H locs hP hD hS => ?_)
                have hP : va_P (dC, dI) vwCl [(oD, .inr (4, [.int (nI 0), .ref dF, .int (nI len), .int (nI 1), .ref dH, .int (nI sr), .ref dL, .int (nI en), .int (nI ram), .int (nI mz), .ref dM, .int (nI mz), .int (nI (cn + 1)), .ref dP, .ref dS, .int (nI fk), .int fp, .int (nI ka), .int (nI kn), .int (nI sv), .ref dK])), (dM, .inl (cI, 8192, .inl dm)), (dP, .inl (cI, 16, .inl (upd P3 i (nI pos)))), (dS, .inl (cI, 16, .inl (upd L3 i (nI n))))] H := hP
                have hD : va_D A [(oD, .inr (4, [.int (nI 0), .ref dF, .int (nI len), .int (nI 1), .ref dH, .int (nI sr), .ref dL, .int (nI en), .int (nI ram), .int (nI mz), .ref dM, .int (nI mz), .int (nI (cn + 1)), .ref dP, .ref dS, .int (nI fk), .int fp, .int (nI ka), .int (nI kn), .int (nI sv), .ref dK])), (dM, .inl (cI, 8192, .inl dm)), (dP, .inl (cI, 16, .inl (upd P3 i (nI pos)))), (dS, .inl (cI, 16, .inl (upd L3 i (nI n))))] := hD
                refine lv_iload_n hx hb dX4_block_195 rfl (lv_at hl 3 rfl) ?_
                refine lv_iload_n hx hb dX4_block_196 rfl (lv_at hl 1 rfl) ?_
                refine wx_iadd hx hb dX4_block_197 ?_
                refine lv_sipush (v := nI 255) hx hb dX4_block_198 (by decide) ?_
                refine wx_iadd hx hb dX4_block_201 ?_
                refine lv_sipush (v := nI 256) hx hb dX4_block_202 (by decide) ?_
                refine wx_idiv hx hb dX4_block_205 (by omega) (by omega) (by omega) ?_
                refine lv_sipush (v := nI 256) hx hb dX4_block_206 (by decide) ?_
                refine wx_imul hx hb dX4_block_209 ?_
                refine lv_istore (lv' := [(5, .int (nI ((((pos + n) + 255) / 256) * 256))), (0, .ref oD), (1, .int (nI n)), (2, .int (nI mz)), (3, .int (nI pos)), (4, .int (nI i))]) hx hb dX4_block_210 hl (by decide) rfl (fun ls hl => ?_)
                refine lv_iload hx hb dX4_block_212 (lv_at hl 0 rfl) ?_
                refine lv_aload_n hx hb dX4_block_214 rfl (lv_at hl 1 rfl) ?_
                refine va_get (D := (dC, dI)) (ci := 4) (v := .int (nI mz)) (C := RX4) (T := TX4) (N := 21) hx hb hts (by decide +kernel) hown hK hP 0 rfl rfl 9 (by decide) (hts (.fieldLink RX4 89 "GlulxHeadsModel" "m" "I") (by decide +kernel)) (fun _ h9 => h9) rfl dX4_block_215 ?_
                refine wx_icmp_le (tgt := 227) hx hb dX4_block_218 (by decide) (by omega) (by omega) (fun c_32 => ?_) (fun c_32 => ?_)
                · skip
                  refine lv_iload_n hx hb dX4_block_227 rfl (lv_at hl 4 rfl) ?_
                  have hP9 := hP.sub (ws' := [(oD, .inr (4, [.int (nI 0), .ref dF, .int (nI len), .int (nI 1), .ref dH, .int (nI sr), .ref dL, .int (nI en), .int (nI ram), .int (nI mz), .ref dM, .int (nI mz), .int (nI (cn + 1)), .ref dP, .ref dS, .int (nI fk), .int fp, .int (nI ka), .int (nI kn), .int (nI sv), .ref dK])), (dM, .inl (cI, 8192, .inl dm)), (dP, .inl (cI, 16, .inl (upd P3 i (nI pos)))), (dS, .inl (cI, 16, .inl (upd L3 i (nI n))))]) [0, 1, 2, 3] rfl
                  have hD9 := hD.sub (ws' := [(oD, .inr (4, [.int (nI 0), .ref dF, .int (nI len), .int (nI 1), .ref dH, .int (nI sr), .ref dL, .int (nI en), .int (nI ram), .int (nI mz), .ref dM, .int (nI mz), .int (nI (cn + 1)), .ref dP, .ref dS, .int (nI fk), .int fp, .int (nI ka), .int (nI kn), .int (nI sv), .ref dK])), (dM, .inl (cI, 8192, .inl dm)), (dP, .inl (cI, 16, .inl (upd P3 i (nI pos)))), (dS, .inl (cI, 16, .inl (upd L3 i (nI n))))]) [0, 1, 2, 3] (by decide) rfl
                  exact W.iret (v := nI pos) hx hb hr (fun t ht hW => ⟨⟨(nI pos), (dm, mz, (cn + 1), mz, (upd P3 i (nI pos)), (upd L3 i (nI n))), rfl, mblk_ok (st := mz) (i := i) (pos := pos) hnT hnE (by omega) (by unfold blkS; split <;> omega) hix hpg (by omega) (by omega) hPl hLl (shift_in hi (by omega) hP3) (shift_in hi (by omega) hL3) hm (by unfold rup; dsimp only; omega), by rw [ht]; exact hP9, hD9⟩, hS.F ht⟩) hS.2.2 dX4_block_228
                · skip
                  refine lv_aload_n hx hb dX4_block_221 rfl (lv_at hl 1 rfl) ?_
                  refine lv_iload hx hb dX4_block_222 (lv_at hl 0 rfl) ?_
                  have hPc := hP.sub (ws' := [(oD, .inr (4, [.int (nI 0), .ref dF, .int (nI len), .int (nI 1), .ref dH, .int (nI sr), .ref dL, .int (nI en), .int (nI ram), .int (nI mz), .ref dM, .int (nI mz), .int (nI (cn + 1)), .ref dP, .ref dS, .int (nI fk), .int fp, .int (nI ka), .int (nI kn), .int (nI sv), .ref dK])), (dM, .inl (cI, 8192, .inl dm))]) [0, 1] rfl
                  have hDc := hD.sub (ws' := [(oD, .inr (4, [.int (nI 0), .ref dF, .int (nI len), .int (nI 1), .ref dH, .int (nI sr), .ref dL, .int (nI en), .int (nI ram), .int (nI mz), .ref dM, .int (nI mz), .int (nI (cn + 1)), .ref dP, .ref dS, .int (nI fk), .int fp, .int (nI ka), .int (nI kn), .int (nI sv), .ref dK])), (dM, .inl (cI, 8192, .inl dm))]) [0, 1] (by decide) rfl
                  have hFc := va_free (wc := [(oD, .inr (4, [.int (nI 0), .ref dF, .int (nI len), .int (nI 1), .ref dH, .int (nI sr), .ref dL, .int (nI en), .int (nI ram), .int (nI mz), .ref dM, .int (nI mz), .int (nI (cn + 1)), .ref dP, .ref dS, .int (nI fk), .int fp, .int (nI ka), .int (nI kn), .int (nI sv), .ref dK])), (dM, .inl (cI, 8192, .inl dm))]) hD hS hA [0, 1] rfl
                  refine va_callv (va_runV (As := [.int (nI ((((pos + n) + 255) / 256) * 256))]) (rest := []) ⟨hx, hb, hml, hown, hts⟩ (c_X4_grow l dC dI cB cI cJ H.size oD 0 dF len 1 dH sr dL en ram mz dM mz (cn + 1) dP dS fk fp ka kn sv dK dm mem ((((pos + n) + 255) / 256) * 256) (by omega) hm hmem hz (by omega)) (cwV 1 hts gX4_block_X4_grow rfl rfl rfl (by decide +kernel) ⟨Nat.le_of_ble_eq_true rfl, Nat.le_of_ble_eq_true rfl⟩) ⟨wBlind, va_recv hK hPc (ci := 4) (q0 := 0) rfl rfl, wGo hK hPc hDc hN⟩ rfl rfl hl.1 rfl (lv_room (Nat.le_of_ble_eq_true rfl)) dX4_block_224 ⟨show 0 ≤ 0 by decide, show 0 ≤ 0 by decide⟩) hS (fun q _ h => hFc q h) hFc (fun u t H1 locs ht hvm w_35 hB hz1 hk1 hS => ?_)
                  obtain ⟨dm2_36, rfl⟩ : ∃ z, z = u := ⟨_, rfl⟩
                  obtain ⟨hP1, hD1⟩ := hB
                  rw [ht] at hP1
                  try dsimp only at w_35
                  obtain ⟨hP, hD⟩ := va_join (wr := [(dP, .inl (cI, 16, .inl (upd P3 i (nI pos)))), (dS, .inl (cI, 16, .inl (upd L3 i (nI n))))]) (w1 := [(oD, .inr (4, [.int (nI 0), .ref dF, .int (nI len), .int (nI 1), .ref dH, .int (nI sr), .ref dL, .int (nI en), .int (nI ram), .int (nI ((((pos + n) + 255) / 256) * 256)), .ref dM, .int (nI mz), .int (nI (cn + 1)), .ref dP, .ref dS, .int (nI fk), .int fp, .int (nI ka), .int (nI kn), .int (nI sv), .ref dK])), (dM, .inl (cI, 8192, .inl dm2_36))]) hP hD [0, 1] [2, 3] rfl rfl (by decide) (by decide) hk1 hFc hP1 hD1
                  clear hPc hDc hFc hP1 hD1 hz1 hk1 hvm
                  generalize H1 = H at hP hS ⊢
                  have hP : va_P (dC, dI) vwCl [(dP, .inl (cI, 16, .inl (upd P3 i (nI pos)))), (dS, .inl (cI, 16, .inl (upd L3 i (nI n)))), (oD, .inr (4, [.int (nI 0), .ref dF, .int (nI len), .int (nI 1), .ref dH, .int (nI sr), .ref dL, .int (nI en), .int (nI ram), .int (nI ((((pos + n) + 255) / 256) * 256)), .ref dM, .int (nI mz), .int (nI (cn + 1)), .ref dP, .ref dS, .int (nI fk), .int fp, .int (nI ka), .int (nI kn), .int (nI sv), .ref dK])), (dM, .inl (cI, 8192, .inl dm2_36))] H := hP
                  have hD : va_D A [(dP, .inl (cI, 16, .inl (upd P3 i (nI pos)))), (dS, .inl (cI, 16, .inl (upd L3 i (nI n)))), (oD, .inr (4, [.int (nI 0), .ref dF, .int (nI len), .int (nI 1), .ref dH, .int (nI sr), .ref dL, .int (nI en), .int (nI ram), .int (nI ((((pos + n) + 255) / 256) * 256)), .ref dM, .int (nI mz), .int (nI (cn + 1)), .ref dP, .ref dS, .int (nI fk), .int fp, .int (nI ka), .int (nI kn), .int (nI sv), .ref dK])), (dM, .inl (cI, 8192, .inl dm2_36))] := hD
                  refine lv_iload_n hx hb dX4_block_227 rfl (lv_at hl 4 rfl) ?_
                  have hP9 := hP.sub (ws' := [(oD, .inr (4, [.int (nI 0), .ref dF, .int (nI len), .int (nI 1), .ref dH, .int (nI sr), .ref dL, .int (nI en), .int (nI ram), .int (nI ((((pos + n) + 255) / 256) * 256)), .ref dM, .int (nI mz), .int (nI (cn + 1)), .ref dP, .ref dS, .int (nI fk), .int fp, .int (nI ka), .int (nI kn), .int (nI sv), .ref dK])), (dM, .inl (cI, 8192, .inl dm2_36)), (dP, .inl (cI, 16, .inl (upd P3 i (nI pos)))), (dS, .inl (cI, 16, .inl (upd L3 i (nI n))))]) [2, 3, 0, 1] rfl
                  have hD9 := hD.sub (ws' := [(oD, .inr (4, [.int (nI 0), .ref dF, .int (nI len), .int (nI 1), .ref dH, .int (nI sr), .ref dL, .int (nI en), .int (nI ram), .int (nI ((((pos + n) + 255) / 256) * 256)), .ref dM, .int (nI mz), .int (nI (cn + 1)), .ref dP, .ref dS, .int (nI fk), .int fp, .int (nI ka), .int (nI kn), .int (nI sv), .ref dK])), (dM, .inl (cI, 8192, .inl dm2_36)), (dP, .inl (cI, 16, .inl (upd P3 i (nI pos)))), (dS, .inl (cI, 16, .inl (upd L3 i (nI n))))]) [2, 3, 0, 1] (by decide) rfl
                  exact W.iret (v := nI pos) hx hb hr (fun t ht hW => ⟨⟨(nI pos), (dm2_36, ((((pos + n) + 255) / 256) * 256), (cn + 1), mz, (upd P3 i (nI pos)), (upd L3 i (nI n))), rfl, mblk_ok (st := mz) (i := i) (pos := pos) hnT hnE (by omega) (by unfold blkS; split <;> omega) hix hpg (by omega) (by omega) hPl hLl (shift_in hi (by omega) hP3) (shift_in hi (by omega) hL3) (gOk_eq w_35 (fun j hj => by unfold cutM; rw [if_pos hj])) (by unfold rup; dsimp only; omega), by rw [ht]; exact hP9, hD9⟩, hS.F ht⟩) hS.2.2 dX4_block_228
              · skip
                refine lv_aload_n hx hb dX4_block_126 rfl (lv_at hl 0 rfl) ?_
                refine va_get (D := (dC, dI)) (ci := 4) (v := .ref dP) (C := RX4) (T := TX4) (N := 21) hx hb hts (by decide +kernel) hown hK hP 0 rfl rfl 13 (by decide) (hts (.fieldLink RX4 23 "GlulxHeadsModel" "blockAt" "[I") (by decide +kernel)) (fun _ h9 => h9) rfl dX4_block_127 ?_
                refine lv_iload hx hb dX4_block_130 (lv_at hl 5 rfl) ?_
                refine lv_aload_n hx hb dX4_block_132 rfl (lv_at hl 0 rfl) ?_
                refine va_get (D := (dC, dI)) (ci := 4) (v := .ref dP) (C := RX4) (T := TX4) (N := 21) hx hb hts (by decide +kernel) hown hK hP 0 rfl rfl 13 (by decide) (hts (.fieldLink RX4 23 "GlulxHeadsModel" "blockAt" "[I") (by decide +kernel)) (fun _ h9 => h9) rfl dX4_block_133 ?_
                refine lv_iload hx hb dX4_block_136 (lv_at hl 5 rfl) ?_
                refine lv_iconst (v := nI 1) hx hb dX4_block_138 (by decide) ?_
                refine wx_isub hx hb dX4_block_139 (by omega) ?_
                refine wx_iald hx hb hK hP 2 1 rfl rfl (by omega) (by decide) dX4_block_140 ?_
                refine wx_iast hx hb hK hP hD hS 2 1 rfl rfl (by omega) (by decide) dX4_block_141 (fun H locs hP hD hS => ?_)
                have hP : va_P (dC, dI) vwCl [(oD, .inr (4, [.int (nI 0), .ref dF, .int (nI len), .int (nI 1), .ref dH, .int (nI sr), .ref dL, .int (nI en), .int (nI ram), .int (nI mz), .ref dM, .int (nI hp), .int (nI cn), .ref dP, .ref dS, .int (nI fk), .int fp, .int (nI ka), .int (nI kn), .int (nI sv), .ref dK])), (dM, .inl (cI, 8192, .inl dm)), (dP, .inl (cI, 16, .inl (upd P3 k (P3 (k - 1))))), (dS, .inl (cI, 16, .inl L3))] H := hP
                have hD : va_D A [(oD, .inr (4, [.int (nI 0), .ref dF, .int (nI len), .int (nI 1), .ref dH, .int (nI sr), .ref dL, .int (nI en), .int (nI ram), .int (nI mz), .ref dM, .int (nI hp), .int (nI cn), .ref dP, .ref dS, .int (nI fk), .int fp, .int (nI ka), .int (nI kn), .int (nI sv), .ref dK])), (dM, .inl (cI, 8192, .inl dm)), (dP, .inl (cI, 16, .inl (upd P3 k (P3 (k - 1))))), (dS, .inl (cI, 16, .inl L3))] := hD
                refine lv_aload_n hx hb dX4_block_142 rfl (lv_at hl 0 rfl) ?_
                refine va_get (D := (dC, dI)) (ci := 4) (v := .ref dS) (C := RX4) (T := TX4) (N := 21) hx hb hts (by decide +kernel) hown hK hP 0 rfl rfl 14 (by decide) (hts (.fieldLink RX4 26 "GlulxHeadsModel" "blockSize" "[I") (by decide +kernel)) (fun _ h9 => h9) rfl dX4_block_143 ?_
                refine lv_iload hx hb dX4_block_146 (lv_at hl 5 rfl) ?_
                refine lv_aload_n hx hb dX4_block_148 rfl (lv_at hl 0 rfl) ?_
                refine va_get (D := (dC, dI)) (ci := 4) (v := .ref dS) (C := RX4) (T := TX4) (N := 21) hx hb hts (by decide +kernel) hown hK hP 0 rfl rfl 14 (by decide) (hts (.fieldLink RX4 26 "GlulxHeadsModel" "blockSize" "[I") (by decide +kernel)) (fun _ h9 => h9) rfl dX4_block_149 ?_
                refine lv_iload hx hb dX4_block_152 (lv_at hl 5 rfl) ?_
                refine lv_iconst (v := nI 1) hx hb dX4_block_154 (by decide) ?_
                refine wx_isub hx hb dX4_block_155 (by omega) ?_
                refine wx_iald hx hb hK hP 3 1 rfl rfl (by omega) (by decide) dX4_block_156 ?_
                refine wx_iast hx hb hK hP hD hS 3 1 rfl rfl (by omega) (by decide) dX4_block_157 (fun H locs hP hD hS => ?_)
                have hP : va_P (dC, dI) vwCl [(oD, .inr (4, [.int (nI 0), .ref dF, .int (nI len), .int (nI 1), .ref dH, .int (nI sr), .ref dL, .int (nI en), .int (nI ram), .int (nI mz), .ref dM, .int (nI hp), .int (nI cn), .ref dP, .ref dS, .int (nI fk), .int fp, .int (nI ka), .int (nI kn), .int (nI sv), .ref dK])), (dM, .inl (cI, 8192, .inl dm)), (dP, .inl (cI, 16, .inl (upd P3 k (P3 (k - 1))))), (dS, .inl (cI, 16, .inl (upd L3 k (L3 (k - 1)))))] H := hP
                have hD : va_D A [(oD, .inr (4, [.int (nI 0), .ref dF, .int (nI len), .int (nI 1), .ref dH, .int (nI sr), .ref dL, .int (nI en), .int (nI ram), .int (nI mz), .ref dM, .int (nI hp), .int (nI cn), .ref dP, .ref dS, .int (nI fk), .int fp, .int (nI ka), .int (nI kn), .int (nI sv), .ref dK])), (dM, .inl (cI, 8192, .inl dm)), (dP, .inl (cI, 16, .inl (upd P3 k (P3 (k - 1))))), (dS, .inl (cI, 16, .inl (upd L3 k (L3 (k - 1)))))] := hD
                refine lv_iinc (v := nI (k - 1)) (lv' := [(5, .int (nI (k - 1))), (0, .ref oD), (1, .int (nI n)), (2, .int (nI mz)), (3, .int (nI pos)), (4, .int (nI i))]) hx hb dX4_block_158 hl (k := 5) rfl (by rw [show Int32.ofInt (-1) = -1 by decide]; exact sb_m1 (by omega)) (by decide) rfl (fun ls hl => ?_)
                refine lv_goto (tgt := 119) hx hb dX4_block_161 (by decide) ?_
                exact ih ((k - 1), (upd P3 k (P3 (k - 1))), (upd L3 k (L3 (k - 1)))) _ _ _ (by omega) ⟨by omega, by omega, shift_up hk1 hk2 (by omega) hP3, shift_up hk1 hk2 (by omega) hL3, hP.sub [0, 1, 2, 3] rfl, hD.sub [0, 1, 2, 3] (by decide) rfl, hS, lv_sub hl [1, 2, 3, 4, 5, 0] rfl⟩
            · skip
              refine lv_iconst (v := nI 0) hx hb dX4_block_111 (by decide) ?_
              have hP9 := hP.sub (ws' := [(oD, .inr (4, [.int (nI 0), .ref dF, .int (nI len), .int (nI 1), .ref dH, .int (nI sr), .ref dL, .int (nI en), .int (nI ram), .int (nI mz), .ref dM, .int (nI hp), .int (nI cn), .ref dP, .ref dS, .int (nI fk), .int fp, .int (nI ka), .int (nI kn), .int (nI sv), .ref dK])), (dM, .inl (cI, 8192, .inl dm)), (dP, .inl (cI, 16, .inl dp)), (dS, .inl (cI, 16, .inl ds))]) [0, 1, 2, 3] rfl
              have hD9 := hD.sub (ws' := [(oD, .inr (4, [.int (nI 0), .ref dF, .int (nI len), .int (nI 1), .ref dH, .int (nI sr), .ref dL, .int (nI en), .int (nI ram), .int (nI mz), .ref dM, .int (nI hp), .int (nI cn), .ref dP, .ref dS, .int (nI fk), .int fp, .int (nI ka), .int (nI kn), .int (nI sv), .ref dK])), (dM, .inl (cI, 8192, .inl dm)), (dP, .inl (cI, 16, .inl dp)), (dS, .inl (cI, 16, .inl ds))]) [0, 1, 2, 3] (by decide) rfl
              exact W.iret (v := nI 0) hx hb hr (fun t ht hW => ⟨⟨(nI 0), (dm, mz, cn, hp, dp, ds), rfl, mblk_no2 (st := mz) (i := i) (pos := pos) hnT hnE (by omega) (by unfold blkS; split <;> omega) hix hpg (by omega) hm hPl hLl, by rw [ht]; exact hP9, hD9⟩, hS.F ht⟩) hS.2.2 dX4_block_112
          · skip
            rw [Int32.le_iff_toInt_le, pk_sub_toInt (a := pl i) (b := pos) (by omega) (by omega), nI_toInt (n := n) (by omega)] at c_29
            refine lv_aload_n hx hb dX4_block_80 rfl (lv_at hl 0 rfl) ?_
            refine va_get (D := (dC, dI)) (ci := 4) (v := .ref dP) (C := RX4) (T := TX4) (N := 21) hx hb hts (by decide +kernel) hown hK hP 0 rfl rfl 13 (by decide) (hts (.fieldLink RX4 23 "GlulxHeadsModel" "blockAt" "[I") (by decide +kernel)) (fun _ h9 => h9) rfl dX4_block_81 ?_
            refine lv_iload hx hb dX4_block_84 (lv_at hl 4 rfl) ?_
            refine wx_iald hx hb hK hP 2 1 rfl rfl (by omega) (by decide) dX4_block_86 ?_
            refine wx_top (hPl i (by omega)) ?_
            have hbi := hbm i (by omega)
            refine lv_aload_n hx hb dX4_block_87 rfl (lv_at hl 0 rfl) ?_
            refine va_get (D := (dC, dI)) (ci := 4) (v := .ref dS) (C := RX4) (T := TX4) (N := 21) hx hb hts (by decide +kernel) hown hK hP 0 rfl rfl 14 (by decide) (hts (.fieldLink RX4 26 "GlulxHeadsModel" "blockSize" "[I") (by decide +kernel)) (fun _ h9 => h9) rfl dX4_block_88 ?_
            refine lv_iload hx hb dX4_block_91 (lv_at hl 4 rfl) ?_
            refine wx_iald hx hb hK hP 3 1 rfl rfl (by omega) (by decide) dX4_block_93 ?_
            refine wx_top (hLl i (by omega)) ?_
            have hbi := hbm i (by omega)
            refine wx_iadd hx hb dX4_block_94 ?_
            refine lv_istore_n (lv' := [(3, .int (nI ((pl i) + (ll i)))), (0, .ref oD), (1, .int (nI n)), (2, .int (nI mz)), (4, .int (nI i))]) hx hb dX4_block_95 rfl hl (by decide) rfl (fun ls hl => ?_)
            refine lv_iinc (v := nI (i + 1)) (lv' := [(4, .int (nI (i + 1))), (3, .int (nI ((pl i) + (ll i)))), (0, .ref oD), (1, .int (nI n)), (2, .int (nI mz))]) hx hb dX4_block_96 hl (k := 4) rfl (by rw [show Int32.ofInt 1 = nI 1 by decide]; exact nI_add _ _) (by decide) rfl (fun ls hl => ?_)
            refine lv_goto (tgt := 58) hx hb dX4_block_99 (by decide) ?_
            exact ih ((i + 1), ((pl i) + (ll i))) _ _ _ (by omega) ⟨by omega, by omega, (by unfold gapP; rw [if_neg (Nat.succ_ne_zero _)]; rfl), (by rw [heq, gapI_go (by omega) (by omega)]; rfl), hP.sub [0, 1, 2, 3] rfl, hD.sub [0, 1, 2, 3] (by decide) rfl, hS, lv_sub hl [2, 3, 4, 1, 0] rfl⟩
    · skip
      refine lv_iconst (v := nI 0) hx hb dX4_block_32 (by decide) ?_
      have hP9 := hP.sub (ws' := [(oD, .inr (4, [.int (nI 0), .ref dF, .int (nI len), .int (nI 1), .ref dH, .int (nI sr), .ref dL, .int (nI en), .int (nI ram), .int (nI mz), .ref dM, .int (nI hp), .int (nI cn), .ref dP, .ref dS, .int (nI fk), .int fp, .int (nI ka), .int (nI kn), .int (nI sv), .ref dK])), (dM, .inl (cI, 8192, .inl dm)), (dP, .inl (cI, 16, .inl dp)), (dS, .inl (cI, 16, .inl ds))]) [0, 1, 2, 3] rfl
      have hD9 := hD.sub (ws' := [(oD, .inr (4, [.int (nI 0), .ref dF, .int (nI len), .int (nI 1), .ref dH, .int (nI sr), .ref dL, .int (nI en), .int (nI ram), .int (nI mz), .ref dM, .int (nI hp), .int (nI cn), .ref dP, .ref dS, .int (nI fk), .int fp, .int (nI ka), .int (nI kn), .int (nI sv), .ref dK])), (dM, .inl (cI, 8192, .inl dm)), (dP, .inl (cI, 16, .inl dp)), (dS, .inl (cI, 16, .inl ds))]) [0, 1, 2, 3] (by decide) rfl
      exact W.iret (v := nI 0) hx hb hr (fun t ht hW => ⟨⟨(nI 0), (dm, mz, cn, hp, dp, ds), rfl, mblk_no hnT hnE (by omega) (fun z => absurd z.1 (by omega)) hm hPl hLl, by rw [ht]; exact hP9, hD9⟩, hS.F ht⟩) hS.2.2 dX4_block_33
  · skip
    rw [Int32.le_iff_toInt_le, nI_toInt (n := 1) (by omega)] at c_2
    refine lv_bipush (v := (-2)) hx hb dX4_block_20 (by decide) ?_
    have hP9 := hP.sub (ws' := [(oD, .inr (4, [.int (nI 0), .ref dF, .int (nI len), .int (nI 1), .ref dH, .int (nI sr), .ref dL, .int (nI en), .int (nI ram), .int (nI mz), .ref dM, .int (nI hp), .int (nI cn), .ref dP, .ref dS, .int (nI fk), .int fp, .int (nI ka), .int (nI kn), .int (nI sv), .ref dK])), (dM, .inl (cI, 8192, .inl dm)), (dP, .inl (cI, 16, .inl dp)), (dS, .inl (cI, 16, .inl ds))]) [0, 1, 2, 3] rfl
    have hD9 := hD.sub (ws' := [(oD, .inr (4, [.int (nI 0), .ref dF, .int (nI len), .int (nI 1), .ref dH, .int (nI sr), .ref dL, .int (nI en), .int (nI ram), .int (nI mz), .ref dM, .int (nI hp), .int (nI cn), .ref dP, .ref dS, .int (nI fk), .int fp, .int (nI ka), .int (nI kn), .int (nI sv), .ref dK])), (dM, .inl (cI, 8192, .inl dm)), (dP, .inl (cI, 16, .inl dp)), (dS, .inl (cI, 16, .inl ds))]) [0, 1, 2, 3] (by decide) rfl
    exact W.iret (v := (-2)) hx hb hr (fun t ht hW => ⟨⟨(-2), (dm, mz, cn, hp, dp, ds), rfl, mblk_neg (by omega) hm hPl hLl, by rw [ht]; exact hP9, hD9⟩, hS.F ht⟩) hS.2.2 dX4_block_22
set_option maxHeartbeats 1000000 in
set_option maxRecDepth 100000 in
theorem c_X4_free_M (l : Launch) (dC : Nat → ClassId) (dI : Nat → Nat → Nat) (cB cI cJ : ClassId) (sz : Nat) (oD : Nat) (th : Nat) (dF : Nat) (len : Nat) (dH : Nat) (sr : Nat) (dL : Nat) (en : Nat) (ram : Nat) (mz : Nat) (dM : Nat) (hp : Nat) (cn : Nat) (dP : Nat) (dS : Nat) (fk : Nat) (fp : Int32) (ka : Nat) (kn : Nat) (sv : Nat) (dK : Nat) (dm : Nat → Int32) (dp : Nat → Int32) (ds : Nat → Int32) (mem : Nat → Nat) (pl : Nat → Nat) (ll : Nat → Nat) (av : Int32) (hmz : mz ≤ 8192) (hm : gOk dm mz mem) (hmem : ∀ j, mem j < 256) (hz : ∀ j, mz ≤ j → mem j = 0) (hcn : cn ≤ 16) (hPl : bOk dp cn pl) (hLl : bOk ds cn ll) (hbm : ∀ i, i < cn → pl i + ll i ≤ mz) (h256 : mz % 256 = 0) (hhp : hp ≤ 8192) (hhpm : 0 < cn → hp ≤ mz) : Met l yX4_free wsX4_free ({ frames := 0, cells := 0, slots := 0, locals := 0 }) (va_Pc [.ref oD, .int av] (wPre dC dI cB cI cJ sz [(oD, .inr (4, [.int (nI th), .ref dF, .int (nI len), .int (nI 1), .ref dH, .int (nI sr), .ref dL, .int (nI en), .int (nI ram), .int (nI mz), .ref dM, .int (nI hp), .int (nI cn), .ref dP, .ref dS, .int (nI fk), .int fp, .int (nI ka), .int (nI kn), .int (nI sv), .ref dK])), (dM, .inl (cI, 8192, .inl dm)), (dP, .inl (cI, 16, .inl dp)), (dS, .inl (cI, 16, .inl ds))])) (va_Qi (fun (r : Int32) (u : Nat × Nat × (Nat → Int32) × (Nat → Int32)) => r = freR pl ll cn av ∧ u.1 = freZ pl mz cn hp av ∧ u.2.1 = freN pl cn av ∧ gOk dm u.1 (freM pl mem cn hp av) ∧ bOk u.2.2.1 u.2.1 (freL pl pl cn av) ∧ bOk u.2.2.2 u.2.1 (freL pl ll cn av)) (fun (u : Nat × Nat × (Nat → Int32) × (Nat → Int32)) => wPost dC dI (va_A [(oD, .inr (4, [.int (nI th), .ref dF, .int (nI len), .int (nI 1), .ref dH, .int (nI sr), .ref dL, .int (nI en), .int (nI ram), .int (nI mz), .ref dM, .int (nI hp), .int (nI cn), .ref dP, .ref dS, .int (nI fk), .int fp, .int (nI ka), .int (nI kn), .int (nI sv), .ref dK])), (dM, .inl (cI, 8192, .inl dm)), (dP, .inl (cI, 16, .inl dp)), (dS, .inl (cI, 16, .inl ds))] sz) [(oD, .inr (4, [.int (nI 0), .ref dF, .int (nI len), .int (nI 1), .ref dH, .int (nI sr), .ref dL, .int (nI en), .int (nI ram), .int (nI u.1), .ref dM, .int (nI hp), .int (nI u.2.1), .ref dP, .ref dS, .int (nI fk), .int fp, .int (nI ka), .int (nI kn), .int (nI sv), .ref dK])), (dM, .inl (cI, 8192, .inl dm)), (dP, .inl (cI, 16, .inl u.2.2.1)), (dS, .inl (cI, 16, .inl u.2.2.2))]) (va_A [(oD, .inr (4, [.int (nI th), .ref dF, .int (nI len), .int (nI 1), .ref dH, .int (nI sr), .ref dL, .int (nI en), .int (nI ram), .int (nI mz), .ref dM, .int (nI hp), .int (nI cn), .ref dP, .ref dS, .int (nI fk), .int fp, .int (nI ka), .int (nI kn), .int (nI sv), .ref dK])), (dM, .inl (cI, 8192, .inl dm)), (dP, .inl (cI, 16, .inl dp)), (dS, .inl (cI, 16, .inl ds))] sz)) 0 0 (va_A [(oD, .inr (4, [.int (nI th), .ref dF, .int (nI len), .int (nI 1), .ref dH, .int (nI sr), .ref dL, .int (nI en), .int (nI ram), .int (nI mz), .ref dM, .int (nI hp), .int (nI cn), .ref dP, .ref dS, .int (nI fk), .int fp, .int (nI ka), .int (nI kn), .int (nI sv), .ref dK])), (dM, .inl (cI, 8192, .inl dm)), (dP, .inl (cI, 16, .inl dp)), (dS, .inl (cI, 16, .inl ds))] sz) := by
  refine Met.ofW (cc := cX4_free) (maxL := 5) (ret := (some .int)) (by decide) rfl ?_
  intro p e s m args below meth c s₁ B hml hv
  obtain ⟨rfl, hsz, hP, hK, hD0, hN⟩ := hv
  have hx := B.exec
  have hb := B.bytes
  have hr := B.returns
  have hts := atoms_spec (ws := wsX4_free) B.pre
  have hown : s.vm.findClass RX4 = some m.cls := findClass_of_methodNamed B.named
  have hlocks := B.notSynchronized
  subst hsz
  have hD := hD0.self (sz := s.heap.size)
  generalize hAe : va_A [(oD, .inr (4, [.int (nI th), .ref dF, .int (nI len), .int (nI 1), .ref dH, .int (nI sr), .ref dL, .int (nI en), .int (nI ram), .int (nI mz), .ref dM, .int (nI hp), .int (nI cn), .ref dP, .ref dS, .int (nI fk), .int fp, .int (nI ka), .int (nI kn), .int (nI sv), .ref dK])), (dM, .inl (cI, 8192, .inl dm)), (dP, .inl (cI, 16, .inl dp)), (dS, .inl (cI, 16, .inl ds))] s.heap.size = A at hD ⊢
  have hA : ∀ q : Nat, s.heap.size ≤ q → A q := fun q h => by rw [← hAe]; exact Or.inr h
  have hS : va_S A s.heap s.heap [] := va_S.rf
  have hP : va_P (dC, dI) vwCl [(oD, .inr (4, [.int (nI th), .ref dF, .int (nI len), .int (nI 1), .ref dH, .int (nI sr), .ref dL, .int (nI en), .int (nI ram), .int (nI mz), .ref dM, .int (nI hp), .int (nI cn), .ref dP, .ref dS, .int (nI fk), .int fp, .int (nI ka), .int (nI kn), .int (nI sv), .ref dK])), (dM, .inl (cI, 8192, .inl dm)), (dP, .inl (cI, 16, .inl dp)), (dS, .inl (cI, 16, .inl ds))] s.heap := hP
  have hl := lv_entry ([.ref oD, .int av]) (n := 5) (Nat.le_of_ble_eq_true rfl)
  rw [lg_entry_eq]
  generalize (lg_sl ([.ref oD, .int av]) ++ List.replicate (5 - (lg_sl ([.ref oD, .int av])).length) Slot.unset).toArray = ls at hl ⊢
  have hl : lv_has ls 5 [(0, .ref oD), (1, .int av)] := hl
  refine lv_aload_n hx hb dX4_free_0 rfl (lv_at hl 0 rfl) ?_
  refine lv_iconst (v := nI 0) hx hb dX4_free_1 (by decide) ?_
  refine va_put (D := (dC, dI)) (ci := 4) (v := .int (nI 0)) (ty := .int) (C := RX4) (T := TX4) (N := 21) hx hb hts (by decide +kernel) tyX4 tyX4_ok nmX4 hown hK hP hD hS 0 rfl rfl 0 (by decide) (hts (.fieldLink RX4 32 "GlulxHeadsModel" "thrown" "I") (by decide +kernel)) (fun _ h9 => h9) rfl (by decide +kernel) rfl rfl (Nat.le_of_ble_eq_true rfl) dX4_free_2 (fun H locs hP hD hS => ?_)
  have hP : va_P (dC, dI) vwCl [(oD, .inr (4, [.int (nI 0), .ref dF, .int (nI len), .int (nI 1), .ref dH, .int (nI sr), .ref dL, .int (nI en), .int (nI ram), .int (nI mz), .ref dM, .int (nI hp), .int (nI cn), .ref dP, .ref dS, .int (nI fk), .int fp, .int (nI ka), .int (nI kn), .int (nI sv), .ref dK])), (dM, .inl (cI, 8192, .inl dm)), (dP, .inl (cI, 16, .inl dp)), (dS, .inl (cI, 16, .inl ds))] H := hP
  have hD : va_D A [(oD, .inr (4, [.int (nI 0), .ref dF, .int (nI len), .int (nI 1), .ref dH, .int (nI sr), .ref dL, .int (nI en), .int (nI ram), .int (nI mz), .ref dM, .int (nI hp), .int (nI cn), .ref dP, .ref dS, .int (nI fk), .int fp, .int (nI ka), .int (nI kn), .int (nI sv), .ref dK])), (dM, .inl (cI, 8192, .inl dm)), (dP, .inl (cI, 16, .inl dp)), (dS, .inl (cI, 16, .inl ds))] := hD
  refine lv_aload_n hx hb dX4_free_5 rfl (lv_at hl 0 rfl) ?_
  refine va_get (D := (dC, dI)) (ci := 4) (v := .int (nI 1)) (C := RX4) (T := TX4) (N := 21) hx hb hts (by decide +kernel) hown hK hP 0 rfl rfl 3 (by decide) (hts (.fieldLink RX4 76 "GlulxHeadsModel" "has" "Z") (by decide +kernel)) (fun _ h9 => h9) rfl dX4_free_6 ?_
  refine wx_if_ne (tgt := 15) hx hb dX4_free_9 (by decide) (by omega) (fun c_1 => ?_) (fun c_1 => absurd c_1 (by decide))
  refine lv_iconst (v := nI 0) hx hb dX4_free_15 (by decide) ?_
  refine lv_istore_n (lv' := [(2, .int (nI 0)), (0, .ref oD), (1, .int av)]) hx hb dX4_free_16 rfl hl (by decide) rfl (fun ls hl => ?_)
  refine wx_loop (σ := Nat) (fun xq9 => cn - xq9) (fun xq9 H locs ls => (xq9 ≤ cn) ∧ (∀ q, q < xq9 → ¬ dp q = av) ∧ va_P (dC, dI) vwCl [(oD, .inr (4, [.int (nI 0), .ref dF, .int (nI len), .int (nI 1), .ref dH, .int (nI sr), .ref dL, .int (nI en), .int (nI ram), .int (nI mz), .ref dM, .int (nI hp), .int (nI cn), .ref dP, .ref dS, .int (nI fk), .int fp, .int (nI ka), .int (nI kn), .int (nI sv), .ref dK])), (dM, .inl (cI, 8192, .inl dm)), (dP, .inl (cI, 16, .inl dp)), (dS, .inl (cI, 16, .inl ds))] H ∧ va_D A [(oD, .inr (4, [.int (nI 0), .ref dF, .int (nI len), .int (nI 1), .ref dH, .int (nI sr), .ref dL, .int (nI en), .int (nI ram), .int (nI mz), .ref dM, .int (nI hp), .int (nI cn), .ref dP, .ref dS, .int (nI fk), .int fp, .int (nI ka), .int (nI kn), .int (nI sv), .ref dK])), (dM, .inl (cI, 8192, .inl dm)), (dP, .inl (cI, 16, .inl dp)), (dS, .inl (cI, 16, .inl ds))] ∧ va_S A s.heap H locs ∧ lv_has ls 5 [(0, .ref oD), (1, .int av), (2, .int (nI xq9))]) ?_ (0) _ _ _ ⟨by omega, fun q hq => absurd hq (Nat.not_lt_zero _), hP.sub [0, 1, 2, 3] rfl, hD.sub [0, 1, 2, 3] (by decide) rfl, hS, lv_sub hl [1, 2, 0] rfl⟩
  rintro i H locs ls ⟨hi, hqa, hP, hD, hS, hl⟩ ih
  have hi : i ≤ cn := hi
  have hqa : ∀ q, q < i → ¬ dp q = av := hqa
  have hP : va_P (dC, dI) vwCl [(oD, .inr (4, [.int (nI 0), .ref dF, .int (nI len), .int (nI 1), .ref dH, .int (nI sr), .ref dL, .int (nI en), .int (nI ram), .int (nI mz), .ref dM, .int (nI hp), .int (nI cn), .ref dP, .ref dS, .int (nI fk), .int fp, .int (nI ka), .int (nI kn), .int (nI sv), .ref dK])), (dM, .inl (cI, 8192, .inl dm)), (dP, .inl (cI, 16, .inl dp)), (dS, .inl (cI, 16, .inl ds))] H := hP
  have hD : va_D A [(oD, .inr (4, [.int (nI 0), .ref dF, .int (nI len), .int (nI 1), .ref dH, .int (nI sr), .ref dL, .int (nI en), .int (nI ram), .int (nI mz), .ref dM, .int (nI hp), .int (nI cn), .ref dP, .ref dS, .int (nI fk), .int fp, .int (nI ka), .int (nI kn), .int (nI sv), .ref dK])), (dM, .inl (cI, 8192, .inl dm)), (dP, .inl (cI, 16, .inl dp)), (dS, .inl (cI, 16, .inl ds))] := hD
  have hl : lv_has ls 5 [(0, .ref oD), (1, .int av), (2, .int (nI i))] := hl
  refine lv_iload_n hx hb dX4_free_17 rfl (lv_at hl 2 rfl) ?_
  refine lv_aload_n hx hb dX4_free_18 rfl (lv_at hl 0 rfl) ?_
  refine va_get (D := (dC, dI)) (ci := 4) (v := .int (nI cn)) (C := RX4) (T := TX4) (N := 21) hx hb hts (by decide +kernel) hown hK hP 0 rfl rfl 12 (by decide) (hts (.fieldLink RX4 95 "GlulxHeadsModel" "blocks" "I") (by decide +kernel)) (fun _ h9 => h9) rfl dX4_free_19 ?_
  refine wx_icmp_ge (tgt := 41) hx hb dX4_free_22 (by decide) (by omega) (by omega) (fun c_2 => ?_) (fun c_2 => ?_)
  · skip
    refine lv_iload_n hx hb dX4_free_41 rfl (lv_at hl 2 rfl) ?_
    refine lv_aload_n hx hb dX4_free_42 rfl (lv_at hl 0 rfl) ?_
    refine va_get (D := (dC, dI)) (ci := 4) (v := .int (nI cn)) (C := RX4) (T := TX4) (N := 21) hx hb hts (by decide +kernel) hown hK hP 0 rfl rfl 12 (by decide) (hts (.fieldLink RX4 95 "GlulxHeadsModel" "blocks" "I") (by decide +kernel)) (fun _ h9 => h9) rfl dX4_free_43 ?_
    refine wx_icmp_ne (tgt := 51) hx hb dX4_free_46 (by decide) (by omega) (by omega) (fun c_3 => absurd c_3 (by omega)) (fun c_3 => ?_)
    refine lv_iconst (v := (-1)) hx hb dX4_free_49 (by decide) ?_
    have hP9 := hP.sub (ws' := [(oD, .inr (4, [.int (nI 0), .ref dF, .int (nI len), .int (nI 1), .ref dH, .int (nI sr), .ref dL, .int (nI en), .int (nI ram), .int (nI mz), .ref dM, .int (nI hp), .int (nI cn), .ref dP, .ref dS, .int (nI fk), .int fp, .int (nI ka), .int (nI kn), .int (nI sv), .ref dK])), (dM, .inl (cI, 8192, .inl dm)), (dP, .inl (cI, 16, .inl dp)), (dS, .inl (cI, 16, .inl ds))]) [0, 1, 2, 3] rfl
    have hD9 := hD.sub (ws' := [(oD, .inr (4, [.int (nI 0), .ref dF, .int (nI len), .int (nI 1), .ref dH, .int (nI sr), .ref dL, .int (nI en), .int (nI ram), .int (nI mz), .ref dM, .int (nI hp), .int (nI cn), .ref dP, .ref dS, .int (nI fk), .int fp, .int (nI ka), .int (nI kn), .int (nI sv), .ref dK])), (dM, .inl (cI, 8192, .inl dm)), (dP, .inl (cI, 16, .inl dp)), (dS, .inl (cI, 16, .inl ds))]) [0, 1, 2, 3] (by decide) rfl
    exact W.iret (v := (-1)) hx hb hr (fun t ht hW => ⟨⟨(-1), (mz, cn, dp, ds), rfl, mfre_no hPl hLl hm (fun q h => hqa q (by omega)), by rw [ht]; exact hP9, hD9⟩, hS.F ht⟩) hS.2.2 dX4_free_50
  · skip
    refine lv_aload_n hx hb dX4_free_25 rfl (lv_at hl 0 rfl) ?_
    refine va_get (D := (dC, dI)) (ci := 4) (v := .ref dP) (C := RX4) (T := TX4) (N := 21) hx hb hts (by decide +kernel) hown hK hP 0 rfl rfl 13 (by decide) (hts (.fieldLink RX4 23 "GlulxHeadsModel" "blockAt" "[I") (by decide +kernel)) (fun _ h9 => h9) rfl dX4_free_26 ?_
    refine lv_iload_n hx hb dX4_free_29 rfl (lv_at hl 2 rfl) ?_
    refine wx_iald hx hb hK hP 2 1 rfl rfl (by omega) (by decide) dX4_free_30 ?_
    refine lv_iload_n hx hb dX4_free_31 rfl (lv_at hl 1 rfl) ?_
    refine lv_icmp_eq (tgt := 41) hx hb dX4_free_32 (by decide) (fun c_4 => ?_) (fun c_4 => ?_)
    · skip
      refine lv_iload_n hx hb dX4_free_41 rfl (lv_at hl 2 rfl) ?_
      refine lv_aload_n hx hb dX4_free_42 rfl (lv_at hl 0 rfl) ?_
      refine va_get (D := (dC, dI)) (ci := 4) (v := .int (nI cn)) (C := RX4) (T := TX4) (N := 21) hx hb hts (by decide +kernel) hown hK hP 0 rfl rfl 12 (by decide) (hts (.fieldLink RX4 95 "GlulxHeadsModel" "blocks" "I") (by decide +kernel)) (fun _ h9 => h9) rfl dX4_free_43 ?_
      refine wx_icmp_ne (tgt := 51) hx hb dX4_free_46 (by decide) (by omega) (by omega) (fun c_5 => ?_) (fun c_5 => absurd c_5 (by omega))
      refine lv_aload_n hx hb dX4_free_51 rfl (lv_at hl 0 rfl) ?_
      refine va_get (D := (dC, dI)) (ci := 4) (v := .ref dS) (C := RX4) (T := TX4) (N := 21) hx hb hts (by decide +kernel) hown hK hP 0 rfl rfl 14 (by decide) (hts (.fieldLink RX4 26 "GlulxHeadsModel" "blockSize" "[I") (by decide +kernel)) (fun _ h9 => h9) rfl dX4_free_52 ?_
      refine lv_iload_n hx hb dX4_free_55 rfl (lv_at hl 2 rfl) ?_
      refine wx_iald hx hb hK hP 3 1 rfl rfl (by omega) (by decide) dX4_free_56 ?_
      refine lv_istore_n (lv' := [(3, .int (ds i)), (0, .ref oD), (1, .int av), (2, .int (nI i))]) hx hb dX4_free_57 rfl hl (by decide) rfl (fun ls hl => ?_)
      refine lv_aload_n hx hb dX4_free_58 rfl (lv_at hl 1 rfl) ?_
      refine lv_dup hx hb dX4_free_59 rfl ?_
      refine va_get (D := (dC, dI)) (ci := 4) (v := .int (nI cn)) (C := RX4) (T := TX4) (N := 21) hx hb hts (by decide +kernel) hown hK hP 0 rfl rfl 12 (by decide) (hts (.fieldLink RX4 95 "GlulxHeadsModel" "blocks" "I") (by decide +kernel)) (fun _ h9 => h9) rfl dX4_free_60 ?_
      refine lv_iconst (v := nI 1) hx hb dX4_free_63 (by decide) ?_
      refine wx_isub hx hb dX4_free_64 (by omega) ?_
      refine va_put (D := (dC, dI)) (ci := 4) (v := .int (nI (cn - 1))) (ty := .int) (C := RX4) (T := TX4) (N := 21) hx hb hts (by decide +kernel) tyX4 tyX4_ok nmX4 hown hK hP hD hS 0 rfl rfl 12 (by decide) (hts (.fieldLink RX4 95 "GlulxHeadsModel" "blocks" "I") (by decide +kernel)) (fun _ h9 => h9) rfl (by decide +kernel) rfl rfl (Nat.le_of_ble_eq_true rfl) dX4_free_65 (fun H locs hP hD hS => ?_)
      have hP : va_P (dC, dI) vwCl [(oD, .inr (4, [.int (nI 0), .ref dF, .int (nI len), .int (nI 1), .ref dH, .int (nI sr), .ref dL, .int (nI en), .int (nI ram), .int (nI mz), .ref dM, .int (nI hp), .int (nI (cn - 1)), .ref dP, .ref dS, .int (nI fk), .int fp, .int (nI ka), .int (nI kn), .int (nI sv), .ref dK])), (dM, .inl (cI, 8192, .inl dm)), (dP, .inl (cI, 16, .inl dp)), (dS, .inl (cI, 16, .inl ds))] H := hP
      have hD : va_D A [(oD, .inr (4, [.int (nI 0), .ref dF, .int (nI len), .int (nI 1), .ref dH, .int (nI sr), .ref dL, .int (nI en), .int (nI ram), .int (nI mz), .ref dM, .int (nI hp), .int (nI (cn - 1)), .ref dP, .ref dS, .int (nI fk), .int fp, .int (nI ka), .int (nI kn), .int (nI sv), .ref dK])), (dM, .inl (cI, 8192, .inl dm)), (dP, .inl (cI, 16, .inl dp)), (dS, .inl (cI, 16, .inl ds))] := hD
      refine lv_iload_n hx hb dX4_free_68 rfl (lv_at hl 3 rfl) ?_
      refine lv_istore (lv' := [(4, .int (nI i)), (3, .int (ds i)), (0, .ref oD), (1, .int av), (2, .int (nI i))]) hx hb dX4_free_69 hl (by decide) rfl (fun ls hl => ?_)
      refine wx_loop (σ := Nat × (Nat → Int32) × (Nat → Int32)) (fun xq9 => cn - xq9.1) (fun xq9 H locs ls => (i ≤ xq9.1) ∧ (xq9.1 ≤ cn - 1) ∧ (∀ q, q < 16 → xq9.2.1 q = if i ≤ q ∧ q < xq9.1 then dp (q + 1) else dp q) ∧ (∀ q, q < 16 → xq9.2.2 q = if i ≤ q ∧ q < xq9.1 then ds (q + 1) else ds q) ∧ va_P (dC, dI) vwCl [(oD, .inr (4, [.int (nI 0), .ref dF, .int (nI len), .int (nI 1), .ref dH, .int (nI sr), .ref dL, .int (nI en), .int (nI ram), .int (nI mz), .ref dM, .int (nI hp), .int (nI (cn - 1)), .ref dP, .ref dS, .int (nI fk), .int fp, .int (nI ka), .int (nI kn), .int (nI sv), .ref dK])), (dM, .inl (cI, 8192, .inl dm)), (dP, .inl (cI, 16, .inl xq9.2.1)), (dS, .inl (cI, 16, .inl xq9.2.2))] H ∧ va_D A [(oD, .inr (4, [.int (nI 0), .ref dF, .int (nI len), .int (nI 1), .ref dH, .int (nI sr), .ref dL, .int (nI en), .int (nI ram), .int (nI mz), .ref dM, .int (nI hp), .int (nI (cn - 1)), .ref dP, .ref dS, .int (nI fk), .int fp, .int (nI ka), .int (nI kn), .int (nI sv), .ref dK])), (dM, .inl (cI, 8192, .inl dm)), (dP, .inl (cI, 16, .inl xq9.2.1)), (dS, .inl (cI, 16, .inl xq9.2.2))] ∧ va_S A s.heap H locs ∧ lv_has ls 5 [(0, .ref oD), (2, .int (nI i)), (3, .int (ds i)), (4, .int (nI xq9.1))]) ?_ (i, dp, ds) _ _ _ ⟨by omega, by omega, fun q hq => by rw [if_neg (by omega)], fun q hq => by rw [if_neg (by omega)], hP.sub [0, 1, 2, 3] rfl, hD.sub [0, 1, 2, 3] (by decide) rfl, hS, lv_sub hl [2, 4, 1, 0] rfl⟩
      rintro ⟨k, P3, L3⟩ H locs ls ⟨hk1, hk2, hP3, hL3, hP, hD, hS, hl⟩ ih
      have hk1 : i ≤ k := hk1
      have hk2 : k ≤ cn - 1 := hk2
      have hP3 : ∀ q, q < 16 → P3 q = if i ≤ q ∧ q < k then dp (q + 1) else dp q := hP3
      have hL3 : ∀ q, q < 16 → L3 q = if i ≤ q ∧ q < k then ds (q + 1) else ds q := hL3
      have hP : va_P (dC, dI) vwCl [(oD, .inr (4, [.int (nI 0), .ref dF, .int (nI len), .int (nI 1), .ref dH, .int (nI sr), .ref dL, .int (nI en), .int (nI ram), .int (nI mz), .ref dM, .int (nI hp), .int (nI (cn - 1)), .ref dP, .ref dS, .int (nI fk), .int fp, .int (nI ka), .int (nI kn), .int (nI sv), .ref dK])), (dM, .inl (cI, 8192, .inl dm)), (dP, .inl (cI, 16, .inl P3)), (dS, .inl (cI, 16, .inl L3))] H := hP
      have hD : va_D A [(oD, .inr (4, [.int (nI 0), .ref dF, .int (nI len), .int (nI 1), .ref dH, .int (nI sr), .ref dL, .int (nI en), .int (nI ram), .int (nI mz), .ref dM, .int (nI hp), .int (nI (cn - 1)), .ref dP, .ref dS, .int (nI fk), .int fp, .int (nI ka), .int (nI kn), .int (nI sv), .ref dK])), (dM, .inl (cI, 8192, .inl dm)), (dP, .inl (cI, 16, .inl P3)), (dS, .inl (cI, 16, .inl L3))] := hD
      have hl : lv_has ls 5 [(0, .ref oD), (2, .int (nI i)), (3, .int (ds i)), (4, .int (nI k))] := hl
      refine lv_iload hx hb dX4_free_71 (lv_at hl 3 rfl) ?_
      refine lv_aload_n hx hb dX4_free_73 rfl (lv_at hl 0 rfl) ?_
      refine va_get (D := (dC, dI)) (ci := 4) (v := .int (nI (cn - 1))) (C := RX4) (T := TX4) (N := 21) hx hb hts (by decide +kernel) hown hK hP 0 rfl rfl 12 (by decide) (hts (.fieldLink RX4 95 "GlulxHeadsModel" "blocks" "I") (by decide +kernel)) (fun _ h9 => h9) rfl dX4_free_74 ?_
      refine wx_icmp_ge (tgt := 118) hx hb dX4_free_77 (by decide) (by omega) (by omega) (fun c_6 => ?_) (fun c_6 => ?_)
      · skip
        refine lv_aload_n hx hb dX4_free_118 rfl (lv_at hl 0 rfl) ?_
        refine lv_aload_n hx hb dX4_free_119 rfl (lv_at hl 0 rfl) ?_
        refine va_get (D := (dC, dI)) (ci := 4) (v := .int (nI (cn - 1))) (C := RX4) (T := TX4) (N := 21) hx hb hts (by decide +kernel) hown hK hP 0 rfl rfl 12 (by decide) (hts (.fieldLink RX4 95 "GlulxHeadsModel" "blocks" "I") (by decide +kernel)) (fun _ h9 => h9) rfl dX4_free_120 ?_
        refine wx_if_ne (tgt := 133) hx hb dX4_free_123 (by decide) (by omega) (fun c_7 => ?_) (fun c_7 => ?_)
        · skip
          refine lv_aload_n hx hb dX4_free_133 rfl (lv_at hl 0 rfl) ?_
          refine va_get (D := (dC, dI)) (ci := 4) (v := .int (nI mz)) (C := RX4) (T := TX4) (N := 21) hx hb hts (by decide +kernel) hown hK hP 0 rfl rfl 9 (by decide) (hts (.fieldLink RX4 89 "GlulxHeadsModel" "m" "I") (by decide +kernel)) (fun _ h9 => h9) rfl dX4_free_134 ?_
          refine va_put (D := (dC, dI)) (ci := 4) (v := .int (nI mz)) (ty := .int) (C := RX4) (T := TX4) (N := 21) hx hb hts (by decide +kernel) tyX4 tyX4_ok nmX4 hown hK hP hD hS 0 rfl rfl 9 (by decide) (hts (.fieldLink RX4 89 "GlulxHeadsModel" "m" "I") (by decide +kernel)) (fun _ h9 => h9) rfl (by decide +kernel) rfl rfl (Nat.le_of_ble_eq_true rfl) dX4_free_137 (fun H locs hP hD hS => ?_)
          have hP : va_P (dC, dI) vwCl [(oD, .inr (4, [.int (nI 0), .ref dF, .int (nI len), .int (nI 1), .ref dH, .int (nI sr), .ref dL, .int (nI en), .int (nI ram), .int (nI mz), .ref dM, .int (nI hp), .int (nI (cn - 1)), .ref dP, .ref dS, .int (nI fk), .int fp, .int (nI ka), .int (nI kn), .int (nI sv), .ref dK])), (dM, .inl (cI, 8192, .inl dm)), (dP, .inl (cI, 16, .inl P3)), (dS, .inl (cI, 16, .inl L3))] H := hP
          have hD : va_D A [(oD, .inr (4, [.int (nI 0), .ref dF, .int (nI len), .int (nI 1), .ref dH, .int (nI sr), .ref dL, .int (nI en), .int (nI ram), .int (nI mz), .ref dM, .int (nI hp), .int (nI (cn - 1)), .ref dP, .ref dS, .int (nI fk), .int fp, .int (nI ka), .int (nI kn), .int (nI sv), .ref dK])), (dM, .inl (cI, 8192, .inl dm)), (dP, .inl (cI, 16, .inl P3)), (dS, .inl (cI, 16, .inl L3))] := hD
          refine lv_iload_n hx hb dX4_free_140 rfl (lv_at hl 2 rfl) ?_
          have hP9 := hP.sub (ws' := [(oD, .inr (4, [.int (nI 0), .ref dF, .int (nI len), .int (nI 1), .ref dH, .int (nI sr), .ref dL, .int (nI en), .int (nI ram), .int (nI mz), .ref dM, .int (nI hp), .int (nI (cn - 1)), .ref dP, .ref dS, .int (nI fk), .int fp, .int (nI ka), .int (nI kn), .int (nI sv), .ref dK])), (dM, .inl (cI, 8192, .inl dm)), (dP, .inl (cI, 16, .inl P3)), (dS, .inl (cI, 16, .inl L3))]) [0, 1, 2, 3] rfl
          have hD9 := hD.sub (ws' := [(oD, .inr (4, [.int (nI 0), .ref dF, .int (nI len), .int (nI 1), .ref dH, .int (nI sr), .ref dL, .int (nI en), .int (nI ram), .int (nI mz), .ref dM, .int (nI hp), .int (nI (cn - 1)), .ref dP, .ref dS, .int (nI fk), .int fp, .int (nI ka), .int (nI kn), .int (nI sv), .ref dK])), (dM, .inl (cI, 8192, .inl dm)), (dP, .inl (cI, 16, .inl P3)), (dS, .inl (cI, 16, .inl L3))]) [0, 1, 2, 3] (by decide) rfl
          exact W.iret (v := ds i) hx hb hr (fun t ht hW => ⟨⟨(ds i), (mz, (cn - 1), P3, L3), rfl, mfre_ok hPl hLl hm hhpm (show i < cn by omega) c_4 hqa (shift_out (by omega) hcn hP3) (shift_out (by omega) hcn hL3) (by rw [if_neg (show ¬ cn = 1 by omega)]), by rw [ht]; exact hP9, hD9⟩, hS.F ht⟩) hS.2.2 dX4_free_141
        · skip
          refine lv_aload_n hx hb dX4_free_126 rfl (lv_at hl 0 rfl) ?_
          refine va_get (D := (dC, dI)) (ci := 4) (v := .int (nI hp)) (C := RX4) (T := TX4) (N := 21) hx hb hts (by decide +kernel) hown hK hP 0 rfl rfl 11 (by decide) (hts (.fieldLink RX4 92 "GlulxHeadsModel" "heap" "I") (by decide +kernel)) (fun _ h9 => h9) rfl dX4_free_127 ?_
          refine lv_goto (tgt := 137) hx hb dX4_free_130 (by decide) ?_
          refine va_put (D := (dC, dI)) (ci := 4) (v := .int (nI hp)) (ty := .int) (C := RX4) (T := TX4) (N := 21) hx hb hts (by decide +kernel) tyX4 tyX4_ok nmX4 hown hK hP hD hS 0 rfl rfl 9 (by decide) (hts (.fieldLink RX4 89 "GlulxHeadsModel" "m" "I") (by decide +kernel)) (fun _ h9 => h9) rfl (by decide +kernel) rfl rfl (Nat.le_of_ble_eq_true rfl) dX4_free_137 (fun H locs hP hD hS => ?_)
          have hP : va_P (dC, dI) vwCl [(oD, .inr (4, [.int (nI 0), .ref dF, .int (nI len), .int (nI 1), .ref dH, .int (nI sr), .ref dL, .int (nI en), .int (nI ram), .int (nI hp), .ref dM, .int (nI hp), .int (nI (cn - 1)), .ref dP, .ref dS, .int (nI fk), .int fp, .int (nI ka), .int (nI kn), .int (nI sv), .ref dK])), (dM, .inl (cI, 8192, .inl dm)), (dP, .inl (cI, 16, .inl P3)), (dS, .inl (cI, 16, .inl L3))] H := hP
          have hD : va_D A [(oD, .inr (4, [.int (nI 0), .ref dF, .int (nI len), .int (nI 1), .ref dH, .int (nI sr), .ref dL, .int (nI en), .int (nI ram), .int (nI hp), .ref dM, .int (nI hp), .int (nI (cn - 1)), .ref dP, .ref dS, .int (nI fk), .int fp, .int (nI ka), .int (nI kn), .int (nI sv), .ref dK])), (dM, .inl (cI, 8192, .inl dm)), (dP, .inl (cI, 16, .inl P3)), (dS, .inl (cI, 16, .inl L3))] := hD
          refine lv_iload_n hx hb dX4_free_140 rfl (lv_at hl 2 rfl) ?_
          have hP9 := hP.sub (ws' := [(oD, .inr (4, [.int (nI 0), .ref dF, .int (nI len), .int (nI 1), .ref dH, .int (nI sr), .ref dL, .int (nI en), .int (nI ram), .int (nI hp), .ref dM, .int (nI hp), .int (nI (cn - 1)), .ref dP, .ref dS, .int (nI fk), .int fp, .int (nI ka), .int (nI kn), .int (nI sv), .ref dK])), (dM, .inl (cI, 8192, .inl dm)), (dP, .inl (cI, 16, .inl P3)), (dS, .inl (cI, 16, .inl L3))]) [0, 1, 2, 3] rfl
          have hD9 := hD.sub (ws' := [(oD, .inr (4, [.int (nI 0), .ref dF, .int (nI len), .int (nI 1), .ref dH, .int (nI sr), .ref dL, .int (nI en), .int (nI ram), .int (nI hp), .ref dM, .int (nI hp), .int (nI (cn - 1)), .ref dP, .ref dS, .int (nI fk), .int fp, .int (nI ka), .int (nI kn), .int (nI sv), .ref dK])), (dM, .inl (cI, 8192, .inl dm)), (dP, .inl (cI, 16, .inl P3)), (dS, .inl (cI, 16, .inl L3))]) [0, 1, 2, 3] (by decide) rfl
          exact W.iret (v := ds i) hx hb hr (fun t ht hW => ⟨⟨(ds i), (hp, (cn - 1), P3, L3), rfl, mfre_ok hPl hLl hm hhpm (show i < cn by omega) c_4 hqa (shift_out (by omega) hcn hP3) (shift_out (by omega) hcn hL3) (by rw [if_pos (show cn = 1 by omega)]), by rw [ht]; exact hP9, hD9⟩, hS.F ht⟩) hS.2.2 dX4_free_141
      · skip
        refine lv_aload_n hx hb dX4_free_80 rfl (lv_at hl 0 rfl) ?_
        refine va_get (D := (dC, dI)) (ci := 4) (v := .ref dP) (C := RX4) (T := TX4) (N := 21) hx hb hts (by decide +kernel) hown hK hP 0 rfl rfl 13 (by decide) (hts (.fieldLink RX4 23 "GlulxHeadsModel" "blockAt" "[I") (by decide +kernel)) (fun _ h9 => h9) rfl dX4_free_81 ?_
        refine lv_iload hx hb dX4_free_84 (lv_at hl 3 rfl) ?_
        refine lv_aload_n hx hb dX4_free_86 rfl (lv_at hl 0 rfl) ?_
        refine va_get (D := (dC, dI)) (ci := 4) (v := .ref dP) (C := RX4) (T := TX4) (N := 21) hx hb hts (by decide +kernel) hown hK hP 0 rfl rfl 13 (by decide) (hts (.fieldLink RX4 23 "GlulxHeadsModel" "blockAt" "[I") (by decide +kernel)) (fun _ h9 => h9) rfl dX4_free_87 ?_
        refine lv_iload hx hb dX4_free_90 (lv_at hl 3 rfl) ?_
        refine lv_iconst (v := nI 1) hx hb dX4_free_92 (by decide) ?_
        refine wx_iadd hx hb dX4_free_93 ?_
        refine wx_iald hx hb hK hP 2 1 rfl rfl (by omega) (by decide) dX4_free_94 ?_
        refine wx_iast hx hb hK hP hD hS 2 1 rfl rfl (by omega) (by decide) dX4_free_95 (fun H locs hP hD hS => ?_)
        have hP : va_P (dC, dI) vwCl [(oD, .inr (4, [.int (nI 0), .ref dF, .int (nI len), .int (nI 1), .ref dH, .int (nI sr), .ref dL, .int (nI en), .int (nI ram), .int (nI mz), .ref dM, .int (nI hp), .int (nI (cn - 1)), .ref dP, .ref dS, .int (nI fk), .int fp, .int (nI ka), .int (nI kn), .int (nI sv), .ref dK])), (dM, .inl (cI, 8192, .inl dm)), (dP, .inl (cI, 16, .inl (upd P3 k (P3 (k + 1))))), (dS, .inl (cI, 16, .inl L3))] H := hP
        have hD : va_D A [(oD, .inr (4, [.int (nI 0), .ref dF, .int (nI len), .int (nI 1), .ref dH, .int (nI sr), .ref dL, .int (nI en), .int (nI ram), .int (nI mz), .ref dM, .int (nI hp), .int (nI (cn - 1)), .ref dP, .ref dS, .int (nI fk), .int fp, .int (nI ka), .int (nI kn), .int (nI sv), .ref dK])), (dM, .inl (cI, 8192, .inl dm)), (dP, .inl (cI, 16, .inl (upd P3 k (P3 (k + 1))))), (dS, .inl (cI, 16, .inl L3))] := hD
        refine lv_aload_n hx hb dX4_free_96 rfl (lv_at hl 0 rfl) ?_
        refine va_get (D := (dC, dI)) (ci := 4) (v := .ref dS) (C := RX4) (T := TX4) (N := 21) hx hb hts (by decide +kernel) hown hK hP 0 rfl rfl 14 (by decide) (hts (.fieldLink RX4 26 "GlulxHeadsModel" "blockSize" "[I") (by decide +kernel)) (fun _ h9 => h9) rfl dX4_free_97 ?_
        refine lv_iload hx hb dX4_free_100 (lv_at hl 3 rfl) ?_
        refine lv_aload_n hx hb dX4_free_102 rfl (lv_at hl 0 rfl) ?_
        refine va_get (D := (dC, dI)) (ci := 4) (v := .ref dS) (C := RX4) (T := TX4) (N := 21) hx hb hts (by decide +kernel) hown hK hP 0 rfl rfl 14 (by decide) (hts (.fieldLink RX4 26 "GlulxHeadsModel" "blockSize" "[I") (by decide +kernel)) (fun _ h9 => h9) rfl dX4_free_103 ?_
        refine lv_iload hx hb dX4_free_106 (lv_at hl 3 rfl) ?_
        refine lv_iconst (v := nI 1) hx hb dX4_free_108 (by decide) ?_
        refine wx_iadd hx hb dX4_free_109 ?_
        refine wx_iald hx hb hK hP 3 1 rfl rfl (by omega) (by decide) dX4_free_110 ?_
        refine wx_iast hx hb hK hP hD hS 3 1 rfl rfl (by omega) (by decide) dX4_free_111 (fun H locs hP hD hS => ?_)
        have hP : va_P (dC, dI) vwCl [(oD, .inr (4, [.int (nI 0), .ref dF, .int (nI len), .int (nI 1), .ref dH, .int (nI sr), .ref dL, .int (nI en), .int (nI ram), .int (nI mz), .ref dM, .int (nI hp), .int (nI (cn - 1)), .ref dP, .ref dS, .int (nI fk), .int fp, .int (nI ka), .int (nI kn), .int (nI sv), .ref dK])), (dM, .inl (cI, 8192, .inl dm)), (dP, .inl (cI, 16, .inl (upd P3 k (P3 (k + 1))))), (dS, .inl (cI, 16, .inl (upd L3 k (L3 (k + 1)))))] H := hP
        have hD : va_D A [(oD, .inr (4, [.int (nI 0), .ref dF, .int (nI len), .int (nI 1), .ref dH, .int (nI sr), .ref dL, .int (nI en), .int (nI ram), .int (nI mz), .ref dM, .int (nI hp), .int (nI (cn - 1)), .ref dP, .ref dS, .int (nI fk), .int fp, .int (nI ka), .int (nI kn), .int (nI sv), .ref dK])), (dM, .inl (cI, 8192, .inl dm)), (dP, .inl (cI, 16, .inl (upd P3 k (P3 (k + 1))))), (dS, .inl (cI, 16, .inl (upd L3 k (L3 (k + 1)))))] := hD
        refine lv_iinc (v := nI (k + 1)) (lv' := [(4, .int (nI (k + 1))), (0, .ref oD), (2, .int (nI i)), (3, .int (ds i))]) hx hb dX4_free_112 hl (k := 3) rfl (by rw [show Int32.ofInt 1 = nI 1 by decide]; exact nI_add _ _) (by decide) rfl (fun ls hl => ?_)
        refine lv_goto (tgt := 71) hx hb dX4_free_115 (by decide) ?_
        exact ih ((k + 1), (upd P3 k (P3 (k + 1))), (upd L3 k (L3 (k + 1)))) _ _ _ (by omega) ⟨by omega, by omega, shift_dn hk1 (by omega) hP3, shift_dn hk1 (by omega) hL3, hP.sub [0, 1, 2, 3] rfl, hD.sub [0, 1, 2, 3] (by decide) rfl, hS, lv_sub hl [1, 2, 3, 0] rfl⟩
    · skip
      refine lv_iinc (v := nI (i + 1)) (lv' := [(2, .int (nI (i + 1))), (0, .ref oD), (1, .int av)]) hx hb dX4_free_35 hl (k := 2) rfl (by rw [show Int32.ofInt 1 = nI 1 by decide]; exact nI_add _ _) (by decide) rfl (fun ls hl => ?_)
      refine lv_goto (tgt := 17) hx hb dX4_free_38 (by decide) ?_
      exact ih ((i + 1)) _ _ _ (by omega) ⟨by omega, lt_s hqa (by assumption), hP.sub [0, 1, 2, 3] rfl, hD.sub [0, 1, 2, 3] (by decide) rfl, hS, lv_sub hl [1, 2, 0] rfl⟩
set_option maxHeartbeats 1000000 in
set_option maxRecDepth 100000 in
theorem c_X4_cell_M (l : Launch) (dC : Nat → ClassId) (dI : Nat → Nat → Nat) (cB cI cJ : ClassId) (sz : Nat) (oD : Nat) (th : Nat) (dF : Nat) (len : Nat) (dH : Nat) (sr : Nat) (dL : Nat) (en : Nat) (ram : Nat) (mz : Nat) (dM : Nat) (hp : Nat) (cn : Nat) (dP : Nat) (dS : Nat) (fk : Nat) (fp : Int32) (ka : Nat) (kn : Nat) (sv : Nat) (dK : Nat) (dm : Nat → Int32) (mem : Nat → Nat) (av : Int32) (hmz : mz ≤ 8192) (hm : gOk dm mz mem) (hmem : ∀ j, mem j < 256) : Met l yX4_cell wsX4_cell ({ frames := 1, cells := 0, slots := 0, locals := 25 }) (va_Pc [.ref oD, .int av] (wPre dC dI cB cI cJ sz [(oD, .inr (4, [.int (nI th), .ref dF, .int (nI len), .int (nI 1), .ref dH, .int (nI sr), .ref dL, .int (nI en), .int (nI ram), .int (nI mz), .ref dM, .int (nI hp), .int (nI cn), .ref dP, .ref dS, .int (nI fk), .int fp, .int (nI ka), .int (nI kn), .int (nI sv), .ref dK])), (dM, .inl (cI, 8192, .inl dm))])) (va_Qi (fun (r : Int32) (u : Nat) => r = (if inM av 1 mz then nI (mem av.toInt.toNat) else 0) ∧ u = (if inM av 1 mz then 0 else 1)) (fun (u : Nat) => wPost dC dI (va_A [(oD, .inr (4, [.int (nI th), .ref dF, .int (nI len), .int (nI 1), .ref dH, .int (nI sr), .ref dL, .int (nI en), .int (nI ram), .int (nI mz), .ref dM, .int (nI hp), .int (nI cn), .ref dP, .ref dS, .int (nI fk), .int fp, .int (nI ka), .int (nI kn), .int (nI sv), .ref dK])), (dM, .inl (cI, 8192, .inl dm))] sz) [(oD, .inr (4, [.int (nI u), .ref dF, .int (nI len), .int (nI 1), .ref dH, .int (nI sr), .ref dL, .int (nI en), .int (nI ram), .int (nI mz), .ref dM, .int (nI hp), .int (nI cn), .ref dP, .ref dS, .int (nI fk), .int fp, .int (nI ka), .int (nI kn), .int (nI sv), .ref dK])), (dM, .inl (cI, 8192, .inl dm))]) (va_A [(oD, .inr (4, [.int (nI th), .ref dF, .int (nI len), .int (nI 1), .ref dH, .int (nI sr), .ref dL, .int (nI en), .int (nI ram), .int (nI mz), .ref dM, .int (nI hp), .int (nI cn), .ref dP, .ref dS, .int (nI fk), .int fp, .int (nI ka), .int (nI kn), .int (nI sv), .ref dK])), (dM, .inl (cI, 8192, .inl dm))] sz)) 0 0 (va_A [(oD, .inr (4, [.int (nI th), .ref dF, .int (nI len), .int (nI 1), .ref dH, .int (nI sr), .ref dL, .int (nI en), .int (nI ram), .int (nI mz), .ref dM, .int (nI hp), .int (nI cn), .ref dP, .ref dS, .int (nI fk), .int fp, .int (nI ka), .int (nI kn), .int (nI sv), .ref dK])), (dM, .inl (cI, 8192, .inl dm))] sz) := by
  refine Met.ofW (cc := cX4_cell) (maxL := 2) (ret := (some .int)) (by decide) rfl ?_
  intro p e s m args below meth c s₁ B hml hv
  obtain ⟨rfl, hsz, hP, hK, hD0, hN⟩ := hv
  have hx := B.exec
  have hb := B.bytes
  have hr := B.returns
  have hts := atoms_spec (ws := wsX4_cell) B.pre
  have hown : s.vm.findClass RX4 = some m.cls := findClass_of_methodNamed B.named
  have hlocks := B.notSynchronized
  subst hsz
  have hD := hD0.self (sz := s.heap.size)
  generalize hAe : va_A [(oD, .inr (4, [.int (nI th), .ref dF, .int (nI len), .int (nI 1), .ref dH, .int (nI sr), .ref dL, .int (nI en), .int (nI ram), .int (nI mz), .ref dM, .int (nI hp), .int (nI cn), .ref dP, .ref dS, .int (nI fk), .int fp, .int (nI ka), .int (nI kn), .int (nI sv), .ref dK])), (dM, .inl (cI, 8192, .inl dm))] s.heap.size = A at hD ⊢
  have hA : ∀ q : Nat, s.heap.size ≤ q → A q := fun q h => by rw [← hAe]; exact Or.inr h
  have hS : va_S A s.heap s.heap [] := va_S.rf
  have hP : va_P (dC, dI) vwCl [(oD, .inr (4, [.int (nI th), .ref dF, .int (nI len), .int (nI 1), .ref dH, .int (nI sr), .ref dL, .int (nI en), .int (nI ram), .int (nI mz), .ref dM, .int (nI hp), .int (nI cn), .ref dP, .ref dS, .int (nI fk), .int fp, .int (nI ka), .int (nI kn), .int (nI sv), .ref dK])), (dM, .inl (cI, 8192, .inl dm))] s.heap := hP
  have hl := lv_entry ([.ref oD, .int av]) (n := 2) (Nat.le_of_ble_eq_true rfl)
  rw [lg_entry_eq]
  generalize (lg_sl ([.ref oD, .int av]) ++ List.replicate (2 - (lg_sl ([.ref oD, .int av])).length) Slot.unset).toArray = ls at hl ⊢
  have hl : lv_has ls 2 [(0, .ref oD), (1, .int av)] := hl
  refine lv_aload_n hx hb dX4_cell_0 rfl (lv_at hl 0 rfl) ?_
  refine lv_iconst (v := nI 0) hx hb dX4_cell_1 (by decide) ?_
  refine va_put (D := (dC, dI)) (ci := 4) (v := .int (nI 0)) (ty := .int) (C := RX4) (T := TX4) (N := 21) hx hb hts (by decide +kernel) tyX4 tyX4_ok nmX4 hown hK hP hD hS 0 rfl rfl 0 (by decide) (hts (.fieldLink RX4 32 "GlulxHeadsModel" "thrown" "I") (by decide +kernel)) (fun _ h9 => h9) rfl (by decide +kernel) rfl rfl (Nat.le_of_ble_eq_true rfl) dX4_cell_2 (fun H locs hP hD hS => ?_)
  have hP : va_P (dC, dI) vwCl [(oD, .inr (4, [.int (nI 0), .ref dF, .int (nI len), .int (nI 1), .ref dH, .int (nI sr), .ref dL, .int (nI en), .int (nI ram), .int (nI mz), .ref dM, .int (nI hp), .int (nI cn), .ref dP, .ref dS, .int (nI fk), .int fp, .int (nI ka), .int (nI kn), .int (nI sv), .ref dK])), (dM, .inl (cI, 8192, .inl dm))] H := hP
  have hD : va_D A [(oD, .inr (4, [.int (nI 0), .ref dF, .int (nI len), .int (nI 1), .ref dH, .int (nI sr), .ref dL, .int (nI en), .int (nI ram), .int (nI mz), .ref dM, .int (nI hp), .int (nI cn), .ref dP, .ref dS, .int (nI fk), .int fp, .int (nI ka), .int (nI kn), .int (nI sv), .ref dK])), (dM, .inl (cI, 8192, .inl dm))] := hD
  refine lv_aload_n hx hb dX4_cell_5 rfl (lv_at hl 0 rfl) ?_
  refine va_get (D := (dC, dI)) (ci := 4) (v := .int (nI 1)) (C := RX4) (T := TX4) (N := 21) hx hb hts (by decide +kernel) hown hK hP 0 rfl rfl 3 (by decide) (hts (.fieldLink RX4 76 "GlulxHeadsModel" "has" "Z") (by decide +kernel)) (fun _ h9 => h9) rfl dX4_cell_6 ?_
  refine wx_if_ne (tgt := 15) hx hb dX4_cell_9 (by decide) (by first | omega | (split <;> omega)) (fun c_1 => ?_) (fun c_1 => absurd c_1 (by decide))
  refine lv_iload_n hx hb dX4_cell_15 rfl (lv_at hl 1 rfl) ?_
  refine lv_i2l (v := av.toInt64) hx hb dX4_cell_16 rfl ?_
  refine lv_lconst (v := lN 0) hx hb dX4_cell_17 (by decide) ?_
  refine lv_aload_n hx hb dX4_cell_18 rfl (lv_at hl 0 rfl) ?_
  refine va_get (D := (dC, dI)) (ci := 4) (v := .int (nI mz)) (C := RX4) (T := TX4) (N := 21) hx hb hts (by decide +kernel) hown hK hP 0 rfl rfl 9 (by decide) (hts (.fieldLink RX4 89 "GlulxHeadsModel" "m" "I") (by decide +kernel)) (fun _ h9 => h9) rfl dX4_cell_19 ?_
  refine lv_iconst (v := nI 1) hx hb dX4_cell_22 (by decide) ?_
  refine lv_isub hx hb dX4_cell_23 ?_
  refine lv_i2l (v := ((nI mz) - (nI 1)).toInt64) hx hb dX4_cell_24 rfl ?_
  have hPc := hP.sub (ws' := []) [] rfl
  have hDc := hD.sub (ws' := []) [] (by decide) rfl
  have hFc := va_free (wc := []) hD hS hA [] rfl
  refine va_calli (va_runS (As := [.long av.toInt64, .long (lN 0), .long (((nI mz) - (nI 1)).toInt64)]) (rest := []) ⟨hx, hb, hml, hown, hts⟩ (c_X4_in l dC dI cB cI cJ H.size av.toInt64 (lN 0) (((nI mz) - (nI 1)).toInt64) ) (va_cwS 3 hts gX4_cell_X4_in rfl rfl rfl (by decide +kernel) ⟨Nat.le_of_ble_eq_true rfl, Nat.le_of_ble_eq_true rfl⟩) ⟨wBlind, wGo hK hPc hDc hN⟩ rfl rfl hl.1 rfl (lv_room (Nat.le_of_ble_eq_true rfl)) dX4_cell_25 ⟨show 0 ≤ 0 by decide, show 0 ≤ 0 by decide⟩) hS (fun q _ h => hFc q h) hFc (fun r_3 u t H1 locs ht hvm w_4 hB hz1 hk1 hS => ?_)
  clear u
  obtain ⟨hP1, hD1⟩ := hB
  rw [ht] at hP1
  try dsimp only at w_4
  obtain ⟨hP, hD⟩ := va_join (wr := [(oD, .inr (4, [.int (nI 0), .ref dF, .int (nI len), .int (nI 1), .ref dH, .int (nI sr), .ref dL, .int (nI en), .int (nI ram), .int (nI mz), .ref dM, .int (nI hp), .int (nI cn), .ref dP, .ref dS, .int (nI fk), .int fp, .int (nI ka), .int (nI kn), .int (nI sv), .ref dK])), (dM, .inl (cI, 8192, .inl dm))]) (w1 := []) hP hD [] [0, 1] rfl rfl (by decide) (by decide) hk1 hFc hP1 hD1
  clear hPc hDc hFc hP1 hD1 hz1 hk1 hvm
  generalize H1 = H at hP hS ⊢
  have hP : va_P (dC, dI) vwCl [(oD, .inr (4, [.int (nI 0), .ref dF, .int (nI len), .int (nI 1), .ref dH, .int (nI sr), .ref dL, .int (nI en), .int (nI ram), .int (nI mz), .ref dM, .int (nI hp), .int (nI cn), .ref dP, .ref dS, .int (nI fk), .int fp, .int (nI ka), .int (nI kn), .int (nI sv), .ref dK])), (dM, .inl (cI, 8192, .inl dm))] H := hP
  have hD : va_D A [(oD, .inr (4, [.int (nI 0), .ref dF, .int (nI len), .int (nI 1), .ref dH, .int (nI sr), .ref dL, .int (nI en), .int (nI ram), .int (nI mz), .ref dM, .int (nI hp), .int (nI cn), .ref dP, .ref dS, .int (nI fk), .int fp, .int (nI ka), .int (nI kn), .int (nI sv), .ref dK])), (dM, .inl (cI, 8192, .inl dm))] := hD
  have hz0 : (av.toInt64).toInt = av.toInt := Int32.toInt_toInt64 _
  have hz1 : (lN 0).toInt = ((0 : Nat) : Int) := pk_lT (by first | omega | (split <;> omega))
  have hz2 : (((nI mz) - (nI 1)).toInt64).toInt = ((nI mz) - (nI 1)).toInt := Int32.toInt_toInt64 _
  have hy2 : ((nI mz) - (nI 1)).toInt = ((mz : Nat) : Int) - ((1 : Nat) : Int) := pk_sub_toInt (by first | omega | (split <;> omega)) (by first | omega | (split <;> omega))
  have hwi : r_3 = nI (if 0 ≤ av.toInt ∧ av.toInt + 1 ≤ (mz : Int) then 1 else 0) := by rw [w_4]; exact wif (by constructor <;> (intro z; omega))
  clear w_4
  subst hwi
  refine wx_if_ne (tgt := 38) hx hb dX4_cell_28 (by decide) (by first | omega | (split <;> omega)) (fun c_5 => ?_) (fun c_5 => ?_)
  · skip
    have c_5 := wz_pos c_5
    obtain ⟨j, hj, rfl⟩ : ∃ j : Nat, j < 2147483648 ∧ av = nI j := nI_of (by intro z; rw [Int32.lt_iff_toInt_lt, show (0 : Int32).toInt = 0 by decide] at z; omega)
    have hjE : (nI j).toInt = (j : Int) := nI_toInt hj
    have hjT : (nI j).toInt.toNat = j := by rw [hjE]; exact Int.toNat_natCast _
    refine lv_aload_n hx hb dX4_cell_38 rfl (lv_at hl 0 rfl) ?_
    refine va_get (D := (dC, dI)) (ci := 4) (v := .ref dM) (C := RX4) (T := TX4) (N := 21) hx hb hts (by decide +kernel) hown hK hP 0 rfl rfl 10 (by decide) (hts (.fieldLink RX4 20 "GlulxHeadsModel" "memory" "[I") (by decide +kernel)) (fun _ h9 => h9) rfl dX4_cell_39 ?_
    refine lv_iload_n hx hb dX4_cell_42 rfl (lv_at hl 1 rfl) ?_
    refine wx_iald hx hb hK hP 1 1 rfl rfl (by first | omega | (split <;> omega)) (by decide) dX4_cell_43 ?_
    have hP9 := hP.sub (ws' := [(oD, .inr (4, [.int (nI 0), .ref dF, .int (nI len), .int (nI 1), .ref dH, .int (nI sr), .ref dL, .int (nI en), .int (nI ram), .int (nI mz), .ref dM, .int (nI hp), .int (nI cn), .ref dP, .ref dS, .int (nI fk), .int fp, .int (nI ka), .int (nI kn), .int (nI sv), .ref dK])), (dM, .inl (cI, 8192, .inl dm))]) [0, 1] rfl
    have hD9 := hD.sub (ws' := [(oD, .inr (4, [.int (nI 0), .ref dF, .int (nI len), .int (nI 1), .ref dH, .int (nI sr), .ref dL, .int (nI en), .int (nI ram), .int (nI mz), .ref dM, .int (nI hp), .int (nI cn), .ref dP, .ref dS, .int (nI fk), .int fp, .int (nI ka), .int (nI kn), .int (nI sv), .ref dK])), (dM, .inl (cI, 8192, .inl dm))]) [0, 1] (by decide) rfl
    exact W.iret (v := dm j) hx hb hr (fun t ht hW => ⟨⟨(dm j), (0), rfl, ⟨by rw [if_pos (by omega), hjT]; exact hm j (by omega), by rw [if_pos (by omega)]⟩, by rw [ht]; exact hP9, hD9⟩, hS.F ht⟩) hS.2.2 dX4_cell_44
  · skip
    have c_5 := wz_zero c_5
    refine lv_aload_n hx hb dX4_cell_31 rfl (lv_at hl 0 rfl) ?_
    refine lv_iconst (v := nI 1) hx hb dX4_cell_32 (by decide) ?_
    refine va_put (D := (dC, dI)) (ci := 4) (v := .int (nI 1)) (ty := .int) (C := RX4) (T := TX4) (N := 21) hx hb hts (by decide +kernel) tyX4 tyX4_ok nmX4 hown hK hP hD hS 0 rfl rfl 0 (by decide) (hts (.fieldLink RX4 32 "GlulxHeadsModel" "thrown" "I") (by decide +kernel)) (fun _ h9 => h9) rfl (by decide +kernel) rfl rfl (Nat.le_of_ble_eq_true rfl) dX4_cell_33 (fun H locs hP hD hS => ?_)
    have hP : va_P (dC, dI) vwCl [(oD, .inr (4, [.int (nI 1), .ref dF, .int (nI len), .int (nI 1), .ref dH, .int (nI sr), .ref dL, .int (nI en), .int (nI ram), .int (nI mz), .ref dM, .int (nI hp), .int (nI cn), .ref dP, .ref dS, .int (nI fk), .int fp, .int (nI ka), .int (nI kn), .int (nI sv), .ref dK])), (dM, .inl (cI, 8192, .inl dm))] H := hP
    have hD : va_D A [(oD, .inr (4, [.int (nI 1), .ref dF, .int (nI len), .int (nI 1), .ref dH, .int (nI sr), .ref dL, .int (nI en), .int (nI ram), .int (nI mz), .ref dM, .int (nI hp), .int (nI cn), .ref dP, .ref dS, .int (nI fk), .int fp, .int (nI ka), .int (nI kn), .int (nI sv), .ref dK])), (dM, .inl (cI, 8192, .inl dm))] := hD
    refine lv_iconst (v := nI 0) hx hb dX4_cell_36 (by decide) ?_
    have hP9 := hP.sub (ws' := [(oD, .inr (4, [.int (nI 1), .ref dF, .int (nI len), .int (nI 1), .ref dH, .int (nI sr), .ref dL, .int (nI en), .int (nI ram), .int (nI mz), .ref dM, .int (nI hp), .int (nI cn), .ref dP, .ref dS, .int (nI fk), .int fp, .int (nI ka), .int (nI kn), .int (nI sv), .ref dK])), (dM, .inl (cI, 8192, .inl dm))]) [0, 1] rfl
    have hD9 := hD.sub (ws' := [(oD, .inr (4, [.int (nI 1), .ref dF, .int (nI len), .int (nI 1), .ref dH, .int (nI sr), .ref dL, .int (nI en), .int (nI ram), .int (nI mz), .ref dM, .int (nI hp), .int (nI cn), .ref dP, .ref dS, .int (nI fk), .int fp, .int (nI ka), .int (nI kn), .int (nI sv), .ref dK])), (dM, .inl (cI, 8192, .inl dm))]) [0, 1] (by decide) rfl
    exact W.iret (v := nI 0) hx hb hr (fun t ht hW => ⟨⟨(nI 0), (1), rfl, ⟨by rw [if_neg (by omega)]; rfl, by rw [if_neg (by omega)]⟩, by rw [ht]; exact hP9, hD9⟩, hS.F ht⟩) hS.2.2 dX4_cell_37
