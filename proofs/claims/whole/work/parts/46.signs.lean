/-! ===== signs as the reference sees them ===== -/
theorem hr_13 {b : Nat → Int32} {L p : Nat} (hby : ∀ k, k < L → isByte (b k)) : hrV b L p = nI 40 ↔ tkn b L p = 13 := by
  unfold hrV tkn
  by_cases hp : p < L
  · rw [if_pos hp, if_pos hp, by_eq (hby p hp) (by decide)]
    constructor
    · intro e
      rw [e, if_neg (by decide +kernel), if_neg (by decide +kernel)]
      decide +kernel
    · intro h
      by_cases hl : isLt (b p) = true
      · rw [if_pos hl] at h
        rcases wtok_ne (wv b p (rn isLt b L p - p)) with h3 | h3 <;> omega
      · rw [if_neg hl] at h
        by_cases hd : isDg (b p) = true
        · rw [if_pos hd] at h; omega
        · rw [if_neg hd] at h
          unfold sgn at h
          by_cases e0 : b p = nI 40
          · first
              | exact e0
              | (rw [if_pos e0] at h; omega)
          rw [if_neg e0] at h
          by_cases e1 : b p = nI 41
          · first
              | exact e1
              | (rw [if_pos e1] at h; omega)
          rw [if_neg e1] at h
          by_cases e2 : b p = nI 59
          · first
              | exact e2
              | (rw [if_pos e2] at h; omega)
          rw [if_neg e2] at h
          omega
  · rw [if_neg hp, if_neg hp]
    constructor
    · intro e
      exact absurd e.symm (nI_n1 (by decide))
    · intro h; omega
theorem hr_14 {b : Nat → Int32} {L p : Nat} (hby : ∀ k, k < L → isByte (b k)) : hrV b L p = nI 41 ↔ tkn b L p = 14 := by
  unfold hrV tkn
  by_cases hp : p < L
  · rw [if_pos hp, if_pos hp, by_eq (hby p hp) (by decide)]
    constructor
    · intro e
      rw [e, if_neg (by decide +kernel), if_neg (by decide +kernel)]
      decide +kernel
    · intro h
      by_cases hl : isLt (b p) = true
      · rw [if_pos hl] at h
        rcases wtok_ne (wv b p (rn isLt b L p - p)) with h3 | h3 <;> omega
      · rw [if_neg hl] at h
        by_cases hd : isDg (b p) = true
        · rw [if_pos hd] at h; omega
        · rw [if_neg hd] at h
          unfold sgn at h
          by_cases e0 : b p = nI 40
          · first
              | exact e0
              | (rw [if_pos e0] at h; omega)
          rw [if_neg e0] at h
          by_cases e1 : b p = nI 41
          · first
              | exact e1
              | (rw [if_pos e1] at h; omega)
          rw [if_neg e1] at h
          by_cases e2 : b p = nI 59
          · first
              | exact e2
              | (rw [if_pos e2] at h; omega)
          rw [if_neg e2] at h
          omega
  · rw [if_neg hp, if_neg hp]
    constructor
    · intro e
      exact absurd e.symm (nI_n1 (by decide))
    · intro h; omega
theorem hr_15 {b : Nat → Int32} {L p : Nat} (hby : ∀ k, k < L → isByte (b k)) : hrV b L p = nI 59 ↔ tkn b L p = 15 := by
  unfold hrV tkn
  by_cases hp : p < L
  · rw [if_pos hp, if_pos hp, by_eq (hby p hp) (by decide)]
    constructor
    · intro e
      rw [e, if_neg (by decide +kernel), if_neg (by decide +kernel)]
      decide +kernel
    · intro h
      by_cases hl : isLt (b p) = true
      · rw [if_pos hl] at h
        rcases wtok_ne (wv b p (rn isLt b L p - p)) with h3 | h3 <;> omega
      · rw [if_neg hl] at h
        by_cases hd : isDg (b p) = true
        · rw [if_pos hd] at h; omega
        · rw [if_neg hd] at h
          unfold sgn at h
          by_cases e0 : b p = nI 40
          · first
              | exact e0
              | (rw [if_pos e0] at h; omega)
          rw [if_neg e0] at h
          by_cases e1 : b p = nI 41
          · first
              | exact e1
              | (rw [if_pos e1] at h; omega)
          rw [if_neg e1] at h
          by_cases e2 : b p = nI 59
          · first
              | exact e2
              | (rw [if_pos e2] at h; omega)
          rw [if_neg e2] at h
          omega
  · rw [if_neg hp, if_neg hp]
    constructor
    · intro e
      exact absurd e.symm (nI_n1 (by decide))
    · intro h; omega
