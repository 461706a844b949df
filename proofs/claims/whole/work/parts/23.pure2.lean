theorem iinc_m1 (x : Int32) : x + Int32.ofInt (-1) = x - nI 1 := by
  rw [Int32.sub_eq_add_neg]; rfl
theorem cutM_0 {mem : Nat → Nat} {e : Nat} : cutM (cutM mem 0) e = fun _ => 0 := by
  funext j; unfold cutM; rw [if_neg (Nat.not_lt_zero j)]; split <;> rfl
theorem cutM_up {g : Nat → Int32} {mz n : Nat} {mem : Nat → Nat} (h : mOk g mz mem) (hn : mz ≤ n) : cutM mem n = mem := by
  funext j; unfold cutM; split
  · rfl
  · exact (h.2.2.1 j (by omega)).symm
def part (fb : Nat → Nat) (i : Nat) : Nat → Nat := fun q => if q < i then fb q else 0
theorem part_s {fb : Nat → Nat} (h : ∀ j, fb j < 256) (i : Nat) : va_up (part fb i) i (uB (nI (fb i)) % 256) = part fb (i + 1) := by
  funext q
  have h1 := h i
  rw [uB_of (by omega), Nat.mod_eq_of_lt h1]
  by_cases z : q = i
  · subst z; rw [va_up_self]; unfold part; rw [if_pos (by omega)]
  · rw [va_up_ne _ _ z]; unfold part
    by_cases y : q < i
    · rw [if_pos y, if_pos (by omega)]
    · rw [if_neg y, if_neg (by omega)]
theorem part_all {fb : Nat → Nat} {len : Nat} (h : ∀ j, len ≤ j → fb j = 0) : part fb len = fb := by
  funext q; unfold part; split
  · rfl
  · exact (h q (by omega)).symm
theorem part_0 {fb : Nat → Nat} : part fb 0 = fun _ => 0 := by
  funext q; unfold part; rw [if_neg (Nat.not_lt_zero q)]
/-- the lowest w bytes of v from j on, those from t on written -/
def pAtP (mem : Nat → Nat) (w t j : Nat) (v : Int32) : Nat → Nat := fun q => if j + t ≤ q ∧ q < j + w then uB v / 256 ^ (w - 1 - (q - j)) % 256 else mem q
theorem pAt_w {mem : Nat → Nat} {w j : Nat} {v : Int32} : pAtP mem w w j v = mem := by
  funext q; unfold pAtP; rw [if_neg (by omega)]
theorem pAt_s {mem : Nat → Nat} {w t j : Nat} {v re : Int32} (h1 : 1 ≤ t) (h2 : t ≤ w) (hr : uB re = uB v / 256 ^ (w - t)) : va_up (pAtP mem w t j v) (j + (t - 1)) (uB re % 256) = pAtP mem w (t - 1) j v := by
  funext q
  by_cases z : q = j + (t - 1)
  · subst z; rw [va_up_self]; unfold pAtP; rw [if_pos (by omega), hr, show w - 1 - (j + (t - 1) - j) = w - t by omega]
  · rw [va_up_ne _ _ z]; unfold pAtP
    by_cases y : j + t ≤ q ∧ q < j + w
    · rw [if_pos y, if_pos (by omega)]
    · rw [if_neg y, if_neg (by omega)]
theorem pAt_r {v re : Int32} {w t : Nat} (h1 : 1 ≤ t) (h2 : t ≤ w) (hr : uB re = uB v / 256 ^ (w - t)) : uB ((re.toUInt32 >>> ((nI 8).toUInt32 &&& Int32.toUInt32 31)).toInt32) = uB v / 256 ^ (w - (t - 1)) := by
  rw [uB_u re (nI 8) 8 (by decide), hr, Nat.div_div_eq_div_mul, show w - (t - 1) = (w - t) + 1 by omega, Nat.pow_succ 256 (w - t)]
/-- the first gap for n bytes: fuel, index, where the gap begins -/
def gapI (pl ll : Nat → Nat) (n : Nat) : Nat → Nat → Nat → Nat
  | 0, i, _ => i
  | f + 1, i, pos => if pos + n ≤ pl i then i else gapI pl ll n f (i + 1) (pl i + ll i)
theorem gapI_hit {pl ll : Nat → Nat} {n f i pos : Nat} (hf : 0 < f) (h : pos + n ≤ pl i) : gapI pl ll n f i pos = i := by
  obtain ⟨k, rfl⟩ : ∃ k, f = k + 1 := ⟨f - 1, by omega⟩
  show (if _ then _ else _) = _
  rw [if_pos h]
theorem gapI_go {pl ll : Nat → Nat} {n f i pos : Nat} (hf : 0 < f) (h : ¬ pos + n ≤ pl i) : gapI pl ll n f i pos = gapI pl ll n (f - 1) (i + 1) (pl i + ll i) := by
  obtain ⟨k, rfl⟩ : ∃ k, f = k + 1 := ⟨f - 1, by omega⟩
  show (if _ then _ else _) = _
  rw [if_neg h]; rfl
theorem gapI_le {pl ll : Nat → Nat} {n : Nat} : ∀ (f i pos : Nat), i ≤ gapI pl ll n f i pos ∧ gapI pl ll n f i pos ≤ i + f
  | 0, i, _ => ⟨Nat.le_refl _, Nat.le_refl _⟩
  | f + 1, i, pos => by
    show i ≤ (if _ then _ else _) ∧ (if _ then _ else _) ≤ _
    split
    · omega
    · have := gapI_le (pl := pl) (ll := ll) (n := n) f (i + 1) (pl i + ll i)
      omega
/-- where the gap ahead of block ix begins -/
def gapP (pl ll : Nat → Nat) (st ix : Nat) : Nat := if ix = 0 then st else pl (ix - 1) + ll (ix - 1)
theorem gapI_fit {pl ll : Nat → Nat} {n st : Nat} : ∀ (f i : Nat), gapI pl ll n f i (gapP pl ll st i) < i + f → gapP pl ll st (gapI pl ll n f i (gapP pl ll st i)) + n ≤ pl (gapI pl ll n f i (gapP pl ll st i))
  | 0, i, h => absurd h (Nat.lt_irrefl _)
  | f + 1, i, h => by
    by_cases z : gapP pl ll st i + n ≤ pl i
    · rw [gapI_hit (Nat.succ_pos f) z]; exact z
    · rw [gapI_go (Nat.succ_pos f) z] at h ⊢
      have e : pl i + ll i = gapP pl ll st (i + 1) := by unfold gapP; rw [if_neg (by omega)]; rfl
      rw [e, Nat.succ_sub_one] at h ⊢
      exact gapI_fit f (i + 1) (by omega)
def insN (pl : Nat → Nat) (ix x : Nat) : Nat → Nat := fun i => if i < ix then pl i else if i = ix then x else pl (i - 1)
def remN (pl : Nat → Nat) (ix : Nat) : Nat → Nat := fun i => if i < ix then pl i else pl (i + 1)
def rup (k : Nat) : Nat := (k + 256 - 1) / 256 * 256
/-- an int row holds these numbers at its first cn places -/
def bOk (P : Nat → Int32) (cn : Nat) (pl : Nat → Nat) : Prop := ∀ i, i < cn → P i = nI (pl i)
