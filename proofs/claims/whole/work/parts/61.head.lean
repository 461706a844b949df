set_option maxHeartbeats 4000000 in
set_option maxRecDepth 100000 in
theorem law_sw {p : Program} {l : Launch} {e : Env} {s : State} {m : MethodId} {below : List Frame} {meth : Method} {c : Code} {b Ls : Nat} {xs : Nat → Int32} (C0 : lw_At p s m meth c b Ls xs) (n : Nat) (hn : n < 32) {H : Heap} {locs : List Loc} {cells slots : Nat} (ls : Array Slot) (kk : ∀ tg ∈ [136, 209, 246, 283, 308, 321, 335, 348, 374, 412, 461, 486, 511, 536, 573, 586, 599, 612, 637, 674, 730], W p l e room_1 s m #[Value.ref b] below meth c H locs cells slots (lw_Z below #[Value.ref b] s) (F0 m tg ls [])) : W p l e room_1 s m #[Value.ref b] below meth c H locs cells slots (lw_Z below #[Value.ref b] s) (F0 m 40 ls [.int (nI n)]) := by
  obtain ⟨hx, hb, -⟩ := C0
  have hb : c.code = cL_law := hb
  by_cases hlo : 19 < n
  · exact lv_tableOut (tgt := 730) hx hb dL_law_40 (Or.inr (by rw [nI_toInt (n := n) (by omega)]; omega)) (by decide) (kk 730 (by decide))
  · have hn2 : n < 20 := by omega
    clear hlo hn
    match n, hn2 with
    | 0, _ => exact lv_tableIn (off := 96) (tgt := 136) hx hb dL_law_40 (by decide) (by decide) (by decide) (by decide) (kk 136 (by decide))
    | 1, _ => exact lv_tableIn (off := 169) (tgt := 209) hx hb dL_law_40 (by decide) (by decide) (by decide) (by decide) (kk 209 (by decide))
    | 2, _ => exact lv_tableIn (off := 206) (tgt := 246) hx hb dL_law_40 (by decide) (by decide) (by decide) (by decide) (kk 246 (by decide))
    | 3, _ => exact lv_tableIn (off := 243) (tgt := 283) hx hb dL_law_40 (by decide) (by decide) (by decide) (by decide) (kk 283 (by decide))
    | 4, _ => exact lv_tableIn (off := 268) (tgt := 308) hx hb dL_law_40 (by decide) (by decide) (by decide) (by decide) (kk 308 (by decide))
    | 5, _ => exact lv_tableIn (off := 281) (tgt := 321) hx hb dL_law_40 (by decide) (by decide) (by decide) (by decide) (kk 321 (by decide))
    | 6, _ => exact lv_tableIn (off := 295) (tgt := 335) hx hb dL_law_40 (by decide) (by decide) (by decide) (by decide) (kk 335 (by decide))
    | 7, _ => exact lv_tableIn (off := 308) (tgt := 348) hx hb dL_law_40 (by decide) (by decide) (by decide) (by decide) (kk 348 (by decide))
    | 8, _ => exact lv_tableIn (off := 334) (tgt := 374) hx hb dL_law_40 (by decide) (by decide) (by decide) (by decide) (kk 374 (by decide))
    | 9, _ => exact lv_tableIn (off := 372) (tgt := 412) hx hb dL_law_40 (by decide) (by decide) (by decide) (by decide) (kk 412 (by decide))
    | 10, _ => exact lv_tableIn (off := 421) (tgt := 461) hx hb dL_law_40 (by decide) (by decide) (by decide) (by decide) (kk 461 (by decide))
    | 11, _ => exact lv_tableIn (off := 446) (tgt := 486) hx hb dL_law_40 (by decide) (by decide) (by decide) (by decide) (kk 486 (by decide))
    | 12, _ => exact lv_tableIn (off := 471) (tgt := 511) hx hb dL_law_40 (by decide) (by decide) (by decide) (by decide) (kk 511 (by decide))
    | 13, _ => exact lv_tableIn (off := 496) (tgt := 536) hx hb dL_law_40 (by decide) (by decide) (by decide) (by decide) (kk 536 (by decide))
    | 14, _ => exact lv_tableIn (off := 533) (tgt := 573) hx hb dL_law_40 (by decide) (by decide) (by decide) (by decide) (kk 573 (by decide))
    | 15, _ => exact lv_tableIn (off := 546) (tgt := 586) hx hb dL_law_40 (by decide) (by decide) (by decide) (by decide) (kk 586 (by decide))
    | 16, _ => exact lv_tableIn (off := 559) (tgt := 599) hx hb dL_law_40 (by decide) (by decide) (by decide) (by decide) (kk 599 (by decide))
    | 17, _ => exact lv_tableIn (off := 572) (tgt := 612) hx hb dL_law_40 (by decide) (by decide) (by decide) (by decide) (kk 612 (by decide))
    | 18, _ => exact lv_tableIn (off := 597) (tgt := 637) hx hb dL_law_40 (by decide) (by decide) (by decide) (by decide) (kk 637 (by decide))
    | 19, _ => exact lv_tableIn (off := 634) (tgt := 674) hx hb dL_law_40 (by decide) (by decide) (by decide) (by decide) (kk 674 (by decide))
    | k + 20, h => exact absurd h (by omega)
set_option maxHeartbeats 4000000 in
set_option maxRecDepth 100000 in
theorem law_head {p : Program} {l : Launch} {e : Env} {s : State} {m : MethodId} {below : List Frame} {meth : Method} {c : Code} {b Ls : Nat} {xs : Nat → Int32} (hL : Ls ≤ 3072) (C0 : lw_At p s m meth c b Ls xs) (i : Nat) (hi : i ≤ 3072) {H : Heap} {locs : List Loc} {cells slots : Nat} (hc : cells ≤ 601024) (hs : slots ≤ 7293034) (hS : va_S (fun q : Nat => s.heap.size ≤ q) s.heap H locs) (ls : Array Slot) {oG oD dO : Nat} (hl : lv_has ls 7 [(0, .ref b), (1, .ref oG), (2, .ref oD), (3, .ref dO), (4, .int (nI i))]) (kk : ∀ tg ∈ [136, 209, 246, 283, 308, 321, 335, 348, 374, 412, 461, 486, 511, 536, 573, 586, 599, 612, 637, 674, 730], i + 6 ≤ Ls → W p l e room_1 s m #[Value.ref b] below meth c H locs cells slots (lw_Z below #[Value.ref b] s) (F0 m tg ls [])) : W p l e room_1 s m #[Value.ref b] below meth c H locs cells slots (lw_Z below #[Value.ref b] s) (F0 m 23 ls []) := by
  obtain ⟨hx, hb, hr, hml, hown, hts, hX, hbl, hlocks, hgv⟩ := id C0
  have hb : c.code = cL_law := hb
  have hbA : ¬ (fun q : Nat => s.heap.size ≤ q) b := Nat.not_le.mpr hbl
  refine lv_iload hx hb dL_law_23 (lv_at hl 4 rfl) ?_
  refine lv_aload_n hx hb dL_law_25 rfl (lv_at hl 0 rfl) ?_
  refine va_slen hx hb hX hbl hbA hS dL_law_26 ?_
  refine wx_top (show Int32.ofNat Ls = nI Ls from rfl) ?_
  refine lv_bipush (v := nI 6) hx hb dL_law_27 (by decide) ?_
  refine lv_isub hx hb dL_law_29 ?_
  refine lv_icmp_gt (tgt := 736) hx hb dL_law_30 (by decide) (fun c_1 => ?_) (fun c_1 => ?_)
  · refine W.widen (k := 601024) (n := 7293034) hc hs ?_
    refine va_forget hS.2.2 ?_
    refine lv_iconst (v := 1) hx hb dL_law_736 (by decide) ?_
    exact lw_ret hx hb hr hlocks dL_law_737
  · rw [Int32.lt_iff_toInt_lt, nI_toInt (n := i) (by omega), pk_sub_toInt (a := Ls) (b := 6) (by omega) (by omega)] at c_1
    have hi6 : i + 6 ≤ Ls := by omega
    refine lv_aload_n hx hb dL_law_33 rfl (lv_at hl 0 rfl) ?_
    refine lv_iload hx hb dL_law_34 (lv_at hl 4 rfl) ?_
    refine va_sld hx hb hX hbl hbA hS (vp_in_nI (n := i) (by omega) (by omega)) dL_law_36 ?_
    refine wx_top (congrArg xs (nI_clamp (n := i) (by omega))) ?_
    refine lv_bipush (v := nI 31) hx hb dL_law_37 (by decide) ?_
    refine lv_iand hx hb dL_law_39 ?_
    obtain ⟨n, hn, he⟩ := nx_31 (xs i)
    refine wx_top he ?_
    clear he
    exact law_sw C0 n hn ls (fun tg htg => kk tg htg hi6)
