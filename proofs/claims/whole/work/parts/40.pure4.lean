/-- an int row holds these bytes at its first len places -/
def gOk (df : Nat → Int32) (len : Nat) (fb : Nat → Nat) : Prop := ∀ j, j < len → df j = nI (fb j)
theorem wif {b c : Prop} [Decidable b] [Decidable c] (h : b ↔ c) : nI (if b then 1 else 0) = nI (if c then 1 else 0) := by
  by_cases z : b
  · rw [if_pos z, if_pos (h.mp z)]
  · rw [if_neg z, if_neg (fun y => z (h.mpr y))]
theorem s_l : ∀ n, n < 32 → ((nI n &&& 31).toBitVec.smod 32).toNat = n := by decide +kernel
theorem sshr_b {v : Int32} {k : Nat} (hk : k = 0 ∨ k = 8 ∨ k = 16 ∨ k = 24) : v >>> (nI k &&& 31) &&& nI 255 = nI (uB v / 2 ^ k % 256) := uB_sshr v k (nI k &&& 31) (s_l k (by omega)) hk
theorem up4_at {fb : Nat → Nat} {k : Nat} {v : Int32} : up4 fb k v = fun q => if k ≤ q ∧ q < k + 4 then uB v / 2 ^ (24 - 8 * (q - k)) % 256 else fb q := by
  funext q
  unfold up4
  by_cases h3 : q = k + 3
  · subst h3; rw [va_up_self, if_pos (by omega), show 24 - 8 * (k + 3 - k) = 0 by omega, Nat.pow_zero, Nat.div_one]
  · rw [va_up_ne _ _ h3]
    by_cases h2 : q = k + 2
    · subst h2; rw [va_up_self, if_pos (by omega), show 24 - 8 * (k + 2 - k) = 8 by omega]
    · rw [va_up_ne _ _ h2]
      by_cases h1 : q = k + 1
      · subst h1; rw [va_up_self, if_pos (by omega), show 24 - 8 * (k + 1 - k) = 16 by omega]
      · rw [va_up_ne _ _ h1]
        by_cases h0 : q = k
        · subst h0; rw [va_up_self, if_pos (by omega), show 24 - 8 * (q - q) = 24 by omega]
        · rw [va_up_ne _ _ h0, if_neg (by omega)]
def sel5 (a1 a2 a3 a4 a5 : Int32) (k : Nat) : Int32 := if k < 4 then a1 else if k < 8 then a2 else if k < 12 then a3 else if k < 16 then a4 else a5
def feedX (fb : Nat → Nat) (len : Nat) (a1 a2 a3 a4 a5 : Int32) : Nat → Nat := fun q => if len ≤ q ∧ q < len + 20 then uB (sel5 a1 a2 a3 a4 a5 (q - len)) / 2 ^ (24 - 8 * ((q - len) % 4)) % 256 else fb q
theorem feed_eq {fb : Nat → Nat} {len : Nat} {a1 a2 a3 a4 a5 : Int32} (h : len + 20 ≤ 3000) : feedB fb len a1 a2 a3 a4 a5 = feedX fb len a1 a2 a3 a4 a5 := by
  unfold feedB
  rw [if_pos h, up4_at, up4_at, up4_at, up4_at, up4_at]
  funext q
  unfold feedX sel5
  dsimp only
  by_cases h5 : len + 16 ≤ q ∧ q < len + 16 + 4
  · rw [if_pos h5, if_pos (by omega), if_neg (by omega), if_neg (by omega), if_neg (by omega), if_neg (by omega), show (q - len) % 4 = q - (len + 16) by omega]
  · rw [if_neg h5]
    by_cases h4 : len + 12 ≤ q ∧ q < len + 12 + 4
    · rw [if_pos h4, if_pos (by omega), if_neg (by omega), if_neg (by omega), if_neg (by omega), if_pos (by omega), show (q - len) % 4 = q - (len + 12) by omega]
    · rw [if_neg h4]
      by_cases h3 : len + 8 ≤ q ∧ q < len + 8 + 4
      · rw [if_pos h3, if_pos (by omega), if_neg (by omega), if_neg (by omega), if_pos (by omega), show (q - len) % 4 = q - (len + 8) by omega]
      · rw [if_neg h3]
        by_cases h2 : len + 4 ≤ q ∧ q < len + 4 + 4
        · rw [if_pos h2, if_pos (by omega), if_neg (by omega), if_pos (by omega), show (q - len) % 4 = q - (len + 4) by omega]
        · rw [if_neg h2]
          by_cases h1 : len ≤ q ∧ q < len + 4
          · rw [if_pos h1, if_pos (by omega), if_pos (by omega), show (q - len) % 4 = q - len by omega]
          · rw [if_neg h1, if_neg (by omega)]
/-- one more place of a row -/
theorem gOk_s {df : Nat → Int32} {n : Nat} {fb : Nat → Nat} {x : Int32} (h : gOk df n fb) (hx : x = nI (fb n)) : gOk (upd df n x) (n + 1) fb := by
  intro j hj
  by_cases z : j = n
  · subst z; rw [pk_us]; exact hx
  · rw [pk_un z]; exact h j (by omega)
theorem gOk_eq {df : Nat → Int32} {n : Nat} {fb fb2 : Nat → Nat} (h : gOk df n fb) (he : ∀ j, j < n → fb j = fb2 j) : gOk df n fb2 := fun j hj => by rw [h j hj, he j hj]
theorem gOk_le {df : Nat → Int32} {n m : Nat} {fb : Nat → Nat} (h : gOk df n fb) (he : m ≤ n) : gOk df m fb := fun j hj => h j (by omega)
