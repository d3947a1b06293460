def euE : Nat → Nat → Nat → Prop
  | 0, _, l => l = 0
  | k + 1, g, l => l = 0 ∨ euE k l (g % l)
def fbp : Nat → Nat × Nat
  | 0 => (0, 1)
  | n + 1 => ((fbp n).2, (fbp n).1 + (fbp n).2)
theorem fbp_mono : ∀ n, (fbp n).1 ≤ (fbp n).2
  | 0 => by decide
  | n + 1 => by
    have := fbp_mono n
    show (fbp n).2 ≤ (fbp n).1 + (fbp n).2
    omega
theorem eu_lame : ∀ (k g l : Nat), l < g → ¬ euE k g l → (fbp (k + 1)).1 ≤ l ∧ (fbp (k + 1)).2 ≤ g
  | 0, g, l, h, hn => by
    have : ¬ l = 0 := hn
    show 1 ≤ l ∧ 1 ≤ g
    omega
  | k + 1, g, l, h, hn => by
    have h0 : ¬ l = 0 := fun q => hn (Or.inl q)
    have h1 : ¬ euE k l (g % l) := fun q => hn (Or.inr q)
    have hlt : g % l < l := Nat.mod_lt _ (by omega)
    obtain ⟨a1, a2⟩ := eu_lame k l (g % l) hlt h1
    have hd := Nat.div_add_mod g l
    have hq : 1 ≤ g / l := Nat.div_pos (by omega) (by omega)
    have hm : l * 1 ≤ l * (g / l) := Nat.mul_le_mul_left l hq
    refine ⟨a2, ?_⟩
    show (fbp (k + 1)).1 + (fbp (k + 1)).2 ≤ g
    omega
theorem eu_up : ∀ (k g l : Nat), euE k g l → euE (k + 1) g l
  | 0, g, l, h => Or.inl h
  | k + 1, g, l, h => by
    rcases h with h | h
    · exact Or.inl h
    · exact Or.inr (eu_up k _ _ h)
theorem eu_99 {g l : Nat} (hg : g < 2 ^ 63) (hl : l < g) : euE 99 g l := by
  by_cases h : euE 99 g l
  · exact h
  · have : (fbp 100).2 ≤ g := (eu_lame 99 g l hl h).2
    have h2 : 2 ^ 63 ≤ (fbp 100).2 := by decide +kernel
    omega
theorem eu_100 {g l : Nat} (hl : l < 2 ^ 63) : euE 100 g l := by
  by_cases h0 : l = 0
  · exact Or.inl h0
  · exact Or.inr (eu_99 hl (Nat.mod_lt _ (by omega)))
theorem sh_c : ∀ t, t < 32 → ((nI t &&& 31).toBitVec.smod 32).toNat = t := by decide +kernel
theorem sh_r {a t : Nat} (ha : a < 2 ^ 31) (ht : t < 32) : nI a >>> (nI t &&& 31) = nI (a / 2 ^ t) := pk_shrN ha _ t (sh_c t ht)
theorem sh_l {a t : Nat} (ht : t < 32) (ha : a * 2 ^ t < 2 ^ 32) : nI a <<< (nI t &&& 31) = nI (a * 2 ^ t) := pk_shlN _ t (sh_c t ht) ha
theorem sh_7 {a : Nat} (ha : a < 2 ^ 32) : nI a &&& nI 7 = nI (a % 8) := pk_andN ha 3 (by decide)
theorem nI_or (a b : Nat) : nI a ||| nI b = nI (a ||| b) := by
  apply Int32.toBitVec_inj.mp
  show BitVec.ofNat 32 a ||| BitVec.ofNat 32 b = BitVec.ofNat 32 (a ||| b)
  rw [BitVec.ofNat_or]
theorem or_8 {a b : Nat} (hb : b < 8) : a * 8 ||| b = a * 8 + b := by
  have := Nat.two_pow_add_eq_or_of_lt (i := 3) (b := b) (by omega) a
  rw [show (2 : Nat) ^ 3 * a = a * 8 by omega] at this
  exact this.symm
theorem sh_or {a b : Nat} (hb : b < 8) : nI (a * 2 ^ 3) ||| nI b = nI (a * 8 + b) := by rw [nI_or, show a * 2 ^ 3 = a * 8 from rfl, or_8 hb]
def lowR (a b pt : Nat) : Int64 := if b = 0 then -3 else lN ((if pt = 0 then a else b) / Nat.gcd a b)
