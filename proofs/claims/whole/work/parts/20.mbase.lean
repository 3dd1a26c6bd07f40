/-- within(v, low, high) of the reference -/
theorem s_within (σ : XM) (a b c : Int) : x_M y_M_within [xL a, xL b, xL c] σ (x_is (.inl (some (xI (if b ≤ a ∧ a ≤ c then 1 else 0)))) σ) := by
  refine x_of 0 rfl (Nat.le_of_ble_eq_true rfl) ?_
  show x_A y_M_within 0 [some (xL a), none, some (xL b), none, some (xL c), none] [] σ 0 0 _
  refine x_lload_n d_M_within_0 rfl rfl ?_
  refine x_lload_n d_M_within_1 rfl rfl ?_
  refine x_lcmp_ d_M_within_2 ?_
  refine x_if_lt (17) d_M_within_3 (by decide) (fun h => ?_) (fun h => ?_)
  · refine x_iconst (0) d_M_within_17 rfl ⟨by decide, by decide⟩ ?_
    refine x_zreturn d_M_within_18 rfl (by first | exact Or.inl rfl | exact Or.inr rfl | (split <;> first | exact Or.inl rfl | exact Or.inr rfl) | assumption) ?_ (Nat.zero_le _) (Nat.zero_le _)
    have : ¬ b ≤ a := by unfold x_lcmp at h; split at h <;> (try split at h) <;> omega
    rw [if_neg (by omega)]
    exact ⟨rfl, rfl⟩
  · refine x_lload_n d_M_within_6 rfl rfl ?_
    refine x_lload d_M_within_7 rfl ?_
    refine x_lcmp_ d_M_within_9 ?_
    have h1 : b ≤ a := by unfold x_lcmp at h; split at h <;> (try split at h) <;> omega
    refine x_if_gt (17) d_M_within_10 (by decide) (fun g => ?_) (fun g => ?_)
    · refine x_iconst (0) d_M_within_17 rfl ⟨by decide, by decide⟩ ?_
      refine x_zreturn d_M_within_18 rfl (by first | exact Or.inl rfl | exact Or.inr rfl | (split <;> first | exact Or.inl rfl | exact Or.inr rfl) | assumption) ?_ (Nat.zero_le _) (Nat.zero_le _)
      have : ¬ a ≤ c := by unfold x_lcmp at g; split at g <;> (try split at g) <;> omega
      rw [if_neg (by omega)]
      exact ⟨rfl, rfl⟩
    · refine x_iconst (1) d_M_within_13 rfl ⟨by decide, by decide⟩ ?_
      refine x_goto (18) d_M_within_14 (by decide) ?_
      refine x_zreturn d_M_within_18 rfl (by first | exact Or.inl rfl | exact Or.inr rfl | (split <;> first | exact Or.inl rfl | exact Or.inr rfl) | assumption) ?_ (Nat.zero_le _) (Nat.zero_le _)
      have : a ≤ c := by unfold x_lcmp at g; split at g <;> (try split at g) <;> omega
      rw [if_pos ⟨h1, this⟩]
      exact ⟨rfl, rfl⟩
