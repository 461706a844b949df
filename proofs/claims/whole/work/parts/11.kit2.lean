section WY
variable {p : Program} {l : Launch} {e : Env} {R : Room} {s : State} {m : MethodId} {args : Array Value} {below : List Frame} {meth : Method} {c : Code} {H : Heap} {locs : List Loc} {cells slots : Nat} {Q : State → Prop}
variable {cc : ByteArray} {pc : Nat} {ls : Array Slot} {rest : List Value} {D : va_G} {cl : List vw_C} {A : Nat → Prop} {a : Nat} {tys : List (ClassId × FieldType)} {ws : va_W} {H0 : Heap}
theorem wx_copy (hexec : p.tables.exec = Jvm.exec) (hb : c.code = cc) (hml : c.maxLocals = ls.size) {own : String} {index : Nat} (hown : s.vm.findClass own = some m.cls) (hlink : (Cond.methodLink own index arraycopyName).before args s = true) (hnat : (Cond.native arraycopyName).before args s = true) (hstat : (Cond.static arraycopyName).before args s = true) (hini : (Cond.initialized "java/lang/System").before args s = true)
    (hK : va_K D cl tys s) (hP : va_P D cl ws H) (hD : va_D A ws) (hS : va_S A H0 H locs) (q0 q1 t0 t1 : Nat) {a0 : Nat} {c0 c1 : ClassId} {n0 n1 : Nat} {f g : Nat → Int32} {ty : FieldType} (ha0 : ws[q0]? = some (a0, .inl (c0, n0, .inl f))) (ha1 : ws[q1]? = some (a, .inl (c1, n1, .inl g))) (ht0 : tys[t0]? = some (c0, ty)) (ht1 : tys[t1]? = some (c1, ty)) (hprim : refKind ty = false)
    {sp dp n : Nat} (h4 : sp + n ≤ n0) (h5 : dp + n ≤ n1) (hfit : ∀ i, i < n → fits ty (.int (f (sp + i))) = true)
    (hframes : 1 ≤ R.frames) (hlocals : (rest.map fun v => v.category).sum + (nativeFrameWords "java/lang/System" "arraycopy" 5 + 11) ≤ R.locals) (hn0 : n0 < 2147483648) (hn1 : n1 < 2147483648) (hdg : decode cc pc = .ok (.invokestatic index, 3))
    (kk : ∀ (H1 : Heap) (locs1 : List Loc), va_P D cl (ws.set q1 (a, .inl (c1, n1, .inl (va_cpy f g sp dp n)))) H1 → va_D A (ws.set q1 (a, .inl (c1, n1, .inl (va_cpy f g sp dp n)))) → va_S A H0 H1 locs1 → W p l e R s m args below meth c H1 locs1 cells slots Q (F0 m (pc + 3) ls rest)) : W p l e R s m args below meth c H locs cells slots Q (F0 m pc ls (.int (nI n) :: .int (nI dp) :: .ref a :: .int (nI sp) :: .ref a0 :: rest)) := by
  have e1 : (nI sp).toNatClampNeg = sp := nI_clamp (by omega)
  have e2 : (nI dp).toNatClampNeg = dp := nI_clamp (by omega)
  have e3 : (nI n).toNatClampNeg = n := nI_clamp (by omega)
  refine va_copyi hexec hb hml hown hlink hnat hstat hini hK hP hD hS q0 q1 t0 t1 ha0 ha1 ht0 ht1 hprim (nI_pos (by omega)) (nI_pos (by omega)) (nI_pos (by omega)) (by rw [e1, e3]; exact h4) (by rw [e2, e3]; exact h5) (by rw [e1, e3]; exact hfit) hframes hlocals hdg ?_
  rw [e1, e2, e3]
  exact kk
end WY
/-! memory: bytes below m, 0 from m on -/
def mOk (g : Nat → Int32) (m : Nat) (mem : Nat → Nat) : Prop := m ≤ 8192 ∧ (∀ j, mem j < 256) ∧ (∀ j, m ≤ j → mem j = 0) ∧ ∀ j, j < 8192 → g j = sb_b (mem j)
def cutM (mem : Nat → Nat) (n : Nat) : Nat → Nat := fun j => if j < n then mem j else 0
def keepM (mem : Nat → Nat) (m : Nat) (memo : Nat → Nat) (mo kf kt : Nat) : Nat → Nat := fun j => if kf ≤ j ∧ j < kt ∧ j < m ∧ j < mo then mem j else memo j
theorem mOk_put {g : Nat → Int32} {m : Nat} {mem : Nat → Nat} {v : Int32} {k : Nat} (h : mOk g m mem) (h3 : k < m) : mOk (upd g k v.toInt8.toInt32) m (va_up mem k (uB v % 256)) := by
  obtain ⟨h1, h2, h4, h5⟩ := h
  refine ⟨h1, fun j => ?_, fun j hj => ?_, fun j hj => ?_⟩
  · unfold va_up; split
    · omega
    · exact h2 j
  · unfold va_up; rw [if_neg (by omega)]; exact h4 j hj
  · by_cases z : j = k
    · subst z; rw [pk_us, va_up_self, ← sb_cut (uB v), uB_nI]
    · rw [pk_un z, va_up_ne _ _ z]; exact h5 j hj
theorem mOk_size {g g2 : Nat → Int32} {m n i : Nat} {mem : Nat → Nat} (h : mOk g m mem) (hn : n ≤ 8192) (hi : m ≤ i) (hg : ∀ q, q < 8192 → g2 q = sb_b (if n ≤ q ∧ q < i then 0 else mem q)) : mOk g2 n (cutM mem n) := by
  obtain ⟨h1, h2, h4, h5⟩ := h
  refine ⟨hn, fun j => ?_, fun j hj => ?_, fun j hj => ?_⟩
  · unfold cutM; split
    · exact h2 j
    · decide
  · unfold cutM; rw [if_neg (by omega)]
  · rw [hg j hj]; unfold cutM
    by_cases z : j < n
    · rw [if_neg (by omega), if_pos z]
    · rw [if_neg z]
      by_cases y : j < i
      · rw [if_pos (by omega)]
      · rw [if_neg (by omega), h4 j (by omega)]
theorem size_step {g2 : Nat → Int32} {n i : Nat} {mem : Nat → Nat} (hn : n ≤ i) (hg : ∀ q, q < 8192 → g2 q = sb_b (if n ≤ q ∧ q < i then 0 else mem q)) : ∀ q, q < 8192 → upd g2 i ((nI 0).toInt8.toInt32) q = sb_b (if n ≤ q ∧ q < i + 1 then 0 else mem q) := by
  intro q hq
  by_cases z : q = i
  · subst z; rw [pk_us, if_pos (by omega)]; rfl
  · rw [pk_un z, hg q hq]
    by_cases y : n ≤ q ∧ q < i
    · rw [if_pos y, if_pos (by omega)]
    · rw [if_neg y, if_neg (by omega)]
theorem mOk_cpy {g go : Nat → Int32} {m mo kf kt : Nat} {mem memo : Nat → Nat} (h : mOk g m mem) (ho : mOk go mo memo) : mOk (va_cpy go (va_cpy go g 0 0 (max 0 (min kf (max 0 (min kt (min m mo)))))) (max 0 (min kt (min m mo))) (max 0 (min kt (min m mo))) (8192 - max 0 (min kt (min m mo)))) mo (keepM mem m memo mo kf kt) := by
  obtain ⟨h1, h2, h4, h5⟩ := h
  obtain ⟨o1, o2, o4, o5⟩ := ho
  refine ⟨o1, fun j => ?_, fun j hj => ?_, fun j hj => ?_⟩
  · unfold keepM; split
    · exact h2 j
    · exact o2 j
  · unfold keepM; rw [if_neg (by omega)]; exact o4 j hj
  · unfold keepM
    by_cases z : max 0 (min kt (min m mo)) ≤ j
    · rw [pk_cpy_in z (by omega), if_neg (by omega), show max 0 (min kt (min m mo)) + (j - max 0 (min kt (min m mo))) = j by omega]; exact o5 j hj
    · rw [pk_cpy_out (by omega)]
      by_cases y : j < max 0 (min kf (max 0 (min kt (min m mo))))
      · rw [pk_cpy_in (by omega) (by omega), if_neg (by omega), show 0 + (j - 0) = j by omega]; exact o5 j hj
      · rw [pk_cpy_out (by omega), if_pos (by omega)]; exact h5 j hj
theorem keepM_0 {mem : Nat → Nat} {m : Nat} {memo : Nat → Nat} {mo : Nat} : keepM mem m memo mo 0 0 = memo := by
  funext j; unfold keepM; rw [if_neg (by omega)]
theorem cpy16 {α : Type} {f g : Nat → α} : ∀ i, i < 16 → va_cpy f g 0 0 16 i = f i := by
  intro i hi
  rw [pk_cpy_in (by omega) (by omega), show 0 + (i - 0) = i by omega]
def vAt (mem : Nat → Nat) : Nat → Nat → Nat
  | 0, _ => 0
  | i + 1, j => vAt mem i j * 256 + mem (j + i)
theorem vAt_lt {mem : Nat → Nat} (h : ∀ j, mem j < 256) (j : Nat) : ∀ i, vAt mem i j < 256 ^ i
  | 0 => Nat.one_pos
  | i + 1 => by
    have h1 := vAt_lt h j i
    have h2 := h (j + i)
    show vAt mem i j * 256 + mem (j + i) < 256 ^ i * 256
    omega
theorem lb_shl8 (n : Nat) : lN n <<< ((nI 8).toInt64 &&& 63) = lN (n * 2 ^ 8) := by
  rw [show (nI 8).toInt64 &&& 63 = lN 8 by decide +kernel]
  apply wb_inj
  rw [Int64.toBitVec_shiftLeft, wb_tb, wb_tb, wb_tb, show (BitVec.ofNat 64 8).smod 64 = BitVec.ofNat 64 8 by decide +kernel]
  apply BitVec.eq_of_toNat_eq
  rw [show BitVec.ofNat 64 n <<< BitVec.ofNat 64 8 = BitVec.ofNat 64 n <<< 8 from rfl]
  simp only [BitVec.toNat_shiftLeft, BitVec.toNat_ofNat, Nat.shiftLeft_eq]
  omega
theorem vAt_s {mem : Nat → Nat} {i j : Nat} (h : mem (j + i) < 256) : lN (vAt mem i j) <<< ((nI 8).toInt64 &&& 63) ||| lN (mem (j + i)) = lN (vAt mem (i + 1) j) := by
  rw [lb_shl8, lb_or 8 h]
  rfl
theorem vAt_4 (mem : Nat → Nat) (j : Nat) : vAt mem 4 j = fw mem j := by
  show (((0 * 256 + mem (j + 0)) * 256 + mem (j + 1)) * 256 + mem (j + 2)) * 256 + mem (j + 3) = _
  unfold fw
  rw [Nat.add_zero]
  omega
