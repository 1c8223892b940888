section CODES
/-! codes in numbers -/
theorem code_dec : ∀ c : Fin 256, pw_and (pw_shr (c.val : Int) 6) 3 = (c.val : Int) / 64 ∧ pw_and (pw_shr (c.val : Int) 4) 3 = (c.val : Int) / 16 % 4 ∧ pw_and (pw_shr (c.val : Int) 2) 3 = (c.val : Int) / 4 % 4 ∧ pw_and (c.val : Int) 3 = (c.val : Int) % 4 := by decide +kernel
theorem code_of {c : Int} (h0 : 0 ≤ c) (h1 : c < 256) : pw_and (pw_shr c 6) 3 = c / 64 ∧ pw_and (pw_shr c 4) 3 = c / 16 % 4 ∧ pw_and (pw_shr c 2) 3 = c / 4 % 4 ∧ pw_and c 3 = c % 4 := by
  have := code_dec ⟨c.toNat, by omega⟩
  simpa [Int.toNat_of_nonneg h0] using this
theorem code_enc : ∀ a : Fin 4, ∀ b : Fin 4, ∀ c : Fin 4, ∀ e : Fin 4, pw_or (pw_or (pw_or (pw_shl (a.val : Int) 6) (pw_shl (b.val : Int) 4)) (pw_shl (c.val : Int) 2)) (e.val : Int) = 64 * (a.val : Int) + 16 * (b.val : Int) + 4 * (c.val : Int) + (e.val : Int) := by decide +kernel
theorem code_mk {a b c e : Int} (ha : 0 ≤ a ∧ a < 4) (hb : 0 ≤ b ∧ b < 4) (hc : 0 ≤ c ∧ c < 4) (he : 0 ≤ e ∧ e < 4) : pw_or (pw_or (pw_or (pw_shl a 6) (pw_shl b 4)) (pw_shl c 2)) e = 64 * a + 16 * b + 4 * c + e := by
  have := code_enc ⟨a.toNat, by omega⟩ ⟨b.toNat, by omega⟩ ⟨c.toNat, by omega⟩ ⟨e.toNat, by omega⟩
  simpa [Int.toNat_of_nonneg ha.1, Int.toNat_of_nonneg hb.1, Int.toNat_of_nonneg hc.1, Int.toNat_of_nonneg he.1] using this
end CODES
