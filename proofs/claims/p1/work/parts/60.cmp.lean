
theorem i32l (a b : Int32) : (a < b) = (a.toInt < b.toInt) := propext Int32.lt_iff_toInt_lt
theorem i32e (a b : Int32) : (a ≤ b) = (a.toInt ≤ b.toInt) := propext Int32.le_iff_toInt_le
theorem i32q (a b : Int32) : (a = b) = (a.toInt = b.toInt) := propext Int32.toInt_inj.symm
theorem c0i : (0 : Int32).toInt = 0 := rfl
theorem c1i : (1 : Int32).toInt = 1 := rfl
theorem c2i : (2 : Int32).toInt = 2 := rfl
theorem c3i : (3 : Int32).toInt = 3 := rfl
theorem c4i : (4 : Int32).toInt = 4 := rfl
theorem fn6 (fn : Int32) : fn < 0 ∨ fn = 0 ∨ fn = 1 ∨ fn = 2 ∨ fn = 3 ∨ 3 < fn := by
  simp only [i32l, i32q, c0i, c1i, c2i, c3i]; omega
theorem fn_neg {fn : Int32} (h : fn < 0) : ¬ fn = 0 ∧ ¬ fn = 1 ∧ ¬ fn = 2 ∧ ¬ fn = 3 ∧ fn < 4 ∧ ¬ 2 ≤ fn ∧ ¬ 3 < fn ∧ fn < 2 ∧ ¬ 4 ≤ fn ∧ fn ≤ 3 := by
  simp only [i32l, i32e, i32q, c0i, c1i, c2i, c3i, c4i] at h ⊢; omega
theorem fn_pos {fn : Int32} (h : 3 < fn) : ¬ fn = 0 ∧ ¬ fn = 1 ∧ ¬ fn = 2 ∧ ¬ fn = 3 ∧ ¬ fn < 4 ∧ 2 ≤ fn ∧ ¬ fn < 0 ∧ ¬ fn < 2 ∧ 4 ≤ fn ∧ ¬ fn ≤ 3 := by
  simp only [i32l, i32e, i32q, c0i, c1i, c2i, c3i, c4i] at h ⊢; omega
theorem lg_self (x : Int64) : lg_cmp x x = 0 := by simp [lg_cmp]
theorem kd5 (kd : Int32) : kd = 105 ∨ kd = 115 ∨ kd = 109 ∨ kd = 99 ∨ (¬ kd = 105 ∧ ¬ kd = 115 ∧ ¬ kd = 109 ∧ ¬ kd = 99) := by
  by_cases a : kd = 105
  · exact Or.inl a
  · by_cases b : kd = 115
    · exact Or.inr (Or.inl b)
    · by_cases c : kd = 109
      · exact Or.inr (Or.inr (Or.inl c))
      · by_cases d : kd = 99
        · exact Or.inr (Or.inr (Or.inr (Or.inl d)))
        · exact Or.inr (Or.inr (Or.inr (Or.inr ⟨a, b, c, d⟩)))
set_option maxHeartbeats 4000000 in
theorem cp_apply (fn b0 : Int32) : w_X9_apply_F_mm_thrown fn b0 = f_L_apply_F fn b0 := by
  by_cases b : b0 = -1
  · rcases fn6 fn with h | rfl | rfl | rfl | rfl | h
    · obtain ⟨a1, a2, a3, a4, a5, a6, a7, a8, a9, a10⟩ := fn_neg h
      simp [w_X9_apply_F_mm_thrown, f_L_apply_F, x_X8_apply_F, b, h, a1, a2, a3, a4, a5, a6, a7, a8, a9, a10]
    · simp [w_X9_apply_F_mm_thrown, f_L_apply_F, x_X8_apply_F, b]
    · simp [w_X9_apply_F_mm_thrown, f_L_apply_F, x_X8_apply_F, b]
    · simp [w_X9_apply_F_mm_thrown, f_L_apply_F, x_X8_apply_F, b]
    · simp [w_X9_apply_F_mm_thrown, f_L_apply_F, x_X8_apply_F, b]
    · obtain ⟨a1, a2, a3, a4, a5, a6, a7, a8, a9, a10⟩ := fn_pos h
      simp [w_X9_apply_F_mm_thrown, f_L_apply_F, x_X8_apply_F, b, h, a1, a2, a3, a4, a5, a6, a7, a8, a9, a10]
  · rcases fn6 fn with h | rfl | rfl | rfl | rfl | h
    · obtain ⟨a1, a2, a3, a4, a5, a6, a7, a8, a9, a10⟩ := fn_neg h
      simp [w_X9_apply_F_mm_thrown, f_L_apply_F, x_X8_apply_F, b, h, a1, a2, a3, a4, a5, a6, a7, a8, a9, a10]
    · simp [w_X9_apply_F_mm_thrown, f_L_apply_F, x_X8_apply_F, b]
    · simp [w_X9_apply_F_mm_thrown, f_L_apply_F, x_X8_apply_F, b]
    · simp [w_X9_apply_F_mm_thrown, f_L_apply_F, x_X8_apply_F, b]
    · simp [w_X9_apply_F_mm_thrown, f_L_apply_F, x_X8_apply_F, b]
    · obtain ⟨a1, a2, a3, a4, a5, a6, a7, a8, a9, a10⟩ := fn_pos h
      simp [w_X9_apply_F_mm_thrown, f_L_apply_F, x_X8_apply_F, b, h, a1, a2, a3, a4, a5, a6, a7, a8, a9, a10]
set_option maxHeartbeats 4000000 in
theorem cp_fat (fn : Int32) : t_fat fn = f_L_functionAt_F fn := by
  rcases fn6 fn with h | rfl | rfl | rfl | rfl | h
  · obtain ⟨a1, a2, a3, a4, a5, a6, a7, a8, a9, a10⟩ := fn_neg h
    simp [t_fat, f_L_functionAt_F, x_X8_functionAt_F, h, a1, a2, a3, a4, a5, a6, a7, a8, a9, a10]
  · simp [t_fat, f_L_functionAt_F, x_X8_functionAt_F]
  · simp [t_fat, f_L_functionAt_F, x_X8_functionAt_F]
  · simp [t_fat, f_L_functionAt_F, x_X8_functionAt_F]
  · simp [t_fat, f_L_functionAt_F, x_X8_functionAt_F]
  · obtain ⟨a1, a2, a3, a4, a5, a6, a7, a8, a9, a10⟩ := fn_pos h
    simp [t_fat, f_L_functionAt_F, x_X8_functionAt_F, h, a1, a2, a3, a4, a5, a6, a7, a8, a9, a10]
set_option maxHeartbeats 8000000 in
theorem cp_rule (kd fn : Int32) : w_X9_rule_F_mm_thrown kd fn = f_L_rule_F kd fn := by
  rcases kd5 kd with rfl | rfl | rfl | rfl | ⟨k1, k2, k3, k4⟩
  · rcases fn6 fn with h | rfl | rfl | rfl | rfl | h
    · obtain ⟨a1, a2, a3, a4, a5, a6, a7, a8, a9, a10⟩ := fn_neg h
      simp [w_X9_rule_F_mm_thrown, f_L_rule_F, x_X8_rule_F, h, a1, a2, a3, a4, a5, a6, a7, a8, a9, a10]
    · simp [w_X9_rule_F_mm_thrown, f_L_rule_F, x_X8_rule_F]
    · simp [w_X9_rule_F_mm_thrown, f_L_rule_F, x_X8_rule_F]
    · simp [w_X9_rule_F_mm_thrown, f_L_rule_F, x_X8_rule_F]
    · simp [w_X9_rule_F_mm_thrown, f_L_rule_F, x_X8_rule_F]
    · obtain ⟨a1, a2, a3, a4, a5, a6, a7, a8, a9, a10⟩ := fn_pos h
      simp [w_X9_rule_F_mm_thrown, f_L_rule_F, x_X8_rule_F, h, a1, a2, a3, a4, a5, a6, a7, a8, a9, a10]
  · rcases fn6 fn with h | rfl | rfl | rfl | rfl | h
    · obtain ⟨a1, a2, a3, a4, a5, a6, a7, a8, a9, a10⟩ := fn_neg h
      simp [w_X9_rule_F_mm_thrown, f_L_rule_F, x_X8_rule_F, h, a1, a2, a3, a4, a5, a6, a7, a8, a9, a10]
    · simp [w_X9_rule_F_mm_thrown, f_L_rule_F, x_X8_rule_F]
    · simp [w_X9_rule_F_mm_thrown, f_L_rule_F, x_X8_rule_F]
    · simp [w_X9_rule_F_mm_thrown, f_L_rule_F, x_X8_rule_F]
    · simp [w_X9_rule_F_mm_thrown, f_L_rule_F, x_X8_rule_F]
    · obtain ⟨a1, a2, a3, a4, a5, a6, a7, a8, a9, a10⟩ := fn_pos h
      simp [w_X9_rule_F_mm_thrown, f_L_rule_F, x_X8_rule_F, h, a1, a2, a3, a4, a5, a6, a7, a8, a9, a10]
  · rcases fn6 fn with h | rfl | rfl | rfl | rfl | h
    · obtain ⟨a1, a2, a3, a4, a5, a6, a7, a8, a9, a10⟩ := fn_neg h
      simp [w_X9_rule_F_mm_thrown, f_L_rule_F, x_X8_rule_F, h, a1, a2, a3, a4, a5, a6, a7, a8, a9, a10]
    · simp [w_X9_rule_F_mm_thrown, f_L_rule_F, x_X8_rule_F]
    · simp [w_X9_rule_F_mm_thrown, f_L_rule_F, x_X8_rule_F]
    · simp [w_X9_rule_F_mm_thrown, f_L_rule_F, x_X8_rule_F]
    · simp [w_X9_rule_F_mm_thrown, f_L_rule_F, x_X8_rule_F]
    · obtain ⟨a1, a2, a3, a4, a5, a6, a7, a8, a9, a10⟩ := fn_pos h
      simp [w_X9_rule_F_mm_thrown, f_L_rule_F, x_X8_rule_F, h, a1, a2, a3, a4, a5, a6, a7, a8, a9, a10]
  · rcases fn6 fn with h | rfl | rfl | rfl | rfl | h
    · obtain ⟨a1, a2, a3, a4, a5, a6, a7, a8, a9, a10⟩ := fn_neg h
      simp [w_X9_rule_F_mm_thrown, f_L_rule_F, x_X8_rule_F, h, a1, a2, a3, a4, a5, a6, a7, a8, a9, a10]
    · simp [w_X9_rule_F_mm_thrown, f_L_rule_F, x_X8_rule_F]
    · simp [w_X9_rule_F_mm_thrown, f_L_rule_F, x_X8_rule_F]
    · simp [w_X9_rule_F_mm_thrown, f_L_rule_F, x_X8_rule_F]
    · simp [w_X9_rule_F_mm_thrown, f_L_rule_F, x_X8_rule_F]
    · obtain ⟨a1, a2, a3, a4, a5, a6, a7, a8, a9, a10⟩ := fn_pos h
      simp [w_X9_rule_F_mm_thrown, f_L_rule_F, x_X8_rule_F, h, a1, a2, a3, a4, a5, a6, a7, a8, a9, a10]
  · rcases fn6 fn with h | rfl | rfl | rfl | rfl | h
    · obtain ⟨a1, a2, a3, a4, a5, a6, a7, a8, a9, a10⟩ := fn_neg h
      simp [w_X9_rule_F_mm_thrown, f_L_rule_F, x_X8_rule_F, k1, k2, k3, k4, h, a1, a2, a3, a4, a5, a6, a7, a8, a9, a10]
    · simp [w_X9_rule_F_mm_thrown, f_L_rule_F, x_X8_rule_F, k1, k2, k3, k4]
    · simp [w_X9_rule_F_mm_thrown, f_L_rule_F, x_X8_rule_F, k1, k2, k3, k4]
    · simp [w_X9_rule_F_mm_thrown, f_L_rule_F, x_X8_rule_F, k1, k2, k3, k4]
    · simp [w_X9_rule_F_mm_thrown, f_L_rule_F, x_X8_rule_F, k1, k2, k3, k4]
    · obtain ⟨a1, a2, a3, a4, a5, a6, a7, a8, a9, a10⟩ := fn_pos h
      simp [w_X9_rule_F_mm_thrown, f_L_rule_F, x_X8_rule_F, k1, k2, k3, k4, h, a1, a2, a3, a4, a5, a6, a7, a8, a9, a10]
theorem fat_ok {fn : Int32} (h : f_L_functionAt_F fn = 0) : x_X8_functionAt_F fn = "" := by
  unfold f_L_functionAt_F at h
  by_cases a : x_X8_functionAt_F fn = ""
  · exact a
  · rw [if_neg a] at h; exact absurd h (by decide)
theorem rule_ok {kd fn : Int32} (h : f_L_rule_F kd fn = 0) : x_X8_rule_F kd fn = "" := by
  unfold f_L_rule_F at h
  by_cases a : x_X8_rule_F kd fn = ""
  · exact a
  · rw [if_neg a] at h; exact absurd h (by decide)
theorem cv_fat {fn : Int32} (fo : Nat → Int64) (h : f_L_functionAt_F fn = 0) : lg_cmp (w_L_functionAt_F_ob fn fo 0) ((0 : Int32).toInt64) = 0 := by
  unfold w_L_functionAt_F_ob
  rw [if_pos (fat_ok h), pk_uLs]; exact lg_self _
set_option maxHeartbeats 8000000 in
theorem rule_one (kd fn : Int32) : x_X8_rule_F kd fn = "" → f_X9_rule_F kd fn = 1 := by
  rcases kd5 kd with rfl | rfl | rfl | rfl | ⟨k1, k2, k3, k4⟩
  · rcases fn6 fn with h | rfl | rfl | rfl | rfl | h
    · obtain ⟨a1, a2, a3, a4, a5, a6, a7, a8, a9, a10⟩ := fn_neg h
      simp [f_X9_rule_F, x_X8_rule_F, h, a1, a2, a3, a4, a5, a6, a7, a8, a9, a10]
    · simp [f_X9_rule_F, x_X8_rule_F]
    · simp [f_X9_rule_F, x_X8_rule_F]
    · simp [f_X9_rule_F, x_X8_rule_F]
    · simp [f_X9_rule_F, x_X8_rule_F]
    · obtain ⟨a1, a2, a3, a4, a5, a6, a7, a8, a9, a10⟩ := fn_pos h
      simp [f_X9_rule_F, x_X8_rule_F, h, a1, a2, a3, a4, a5, a6, a7, a8, a9, a10]
  · rcases fn6 fn with h | rfl | rfl | rfl | rfl | h
    · obtain ⟨a1, a2, a3, a4, a5, a6, a7, a8, a9, a10⟩ := fn_neg h
      simp [f_X9_rule_F, x_X8_rule_F, h, a1, a2, a3, a4, a5, a6, a7, a8, a9, a10]
    · simp [f_X9_rule_F, x_X8_rule_F]
    · simp [f_X9_rule_F, x_X8_rule_F]
    · simp [f_X9_rule_F, x_X8_rule_F]
    · simp [f_X9_rule_F, x_X8_rule_F]
    · obtain ⟨a1, a2, a3, a4, a5, a6, a7, a8, a9, a10⟩ := fn_pos h
      simp [f_X9_rule_F, x_X8_rule_F, h, a1, a2, a3, a4, a5, a6, a7, a8, a9, a10]
  · rcases fn6 fn with h | rfl | rfl | rfl | rfl | h
    · obtain ⟨a1, a2, a3, a4, a5, a6, a7, a8, a9, a10⟩ := fn_neg h
      simp [f_X9_rule_F, x_X8_rule_F, h, a1, a2, a3, a4, a5, a6, a7, a8, a9, a10]
    · simp [f_X9_rule_F, x_X8_rule_F]
    · simp [f_X9_rule_F, x_X8_rule_F]
    · simp [f_X9_rule_F, x_X8_rule_F]
    · simp [f_X9_rule_F, x_X8_rule_F]
    · obtain ⟨a1, a2, a3, a4, a5, a6, a7, a8, a9, a10⟩ := fn_pos h
      simp [f_X9_rule_F, x_X8_rule_F, h, a1, a2, a3, a4, a5, a6, a7, a8, a9, a10]
  · rcases fn6 fn with h | rfl | rfl | rfl | rfl | h
    · obtain ⟨a1, a2, a3, a4, a5, a6, a7, a8, a9, a10⟩ := fn_neg h
      simp [f_X9_rule_F, x_X8_rule_F, h, a1, a2, a3, a4, a5, a6, a7, a8, a9, a10]
    · simp [f_X9_rule_F, x_X8_rule_F]
    · simp [f_X9_rule_F, x_X8_rule_F]
    · simp [f_X9_rule_F, x_X8_rule_F]
    · simp [f_X9_rule_F, x_X8_rule_F]
    · obtain ⟨a1, a2, a3, a4, a5, a6, a7, a8, a9, a10⟩ := fn_pos h
      simp [f_X9_rule_F, x_X8_rule_F, h, a1, a2, a3, a4, a5, a6, a7, a8, a9, a10]
  · rcases fn6 fn with h | rfl | rfl | rfl | rfl | h
    · obtain ⟨a1, a2, a3, a4, a5, a6, a7, a8, a9, a10⟩ := fn_neg h
      simp [f_X9_rule_F, x_X8_rule_F, k1, k2, k3, k4, h, a1, a2, a3, a4, a5, a6, a7, a8, a9, a10]
    · simp [f_X9_rule_F, x_X8_rule_F, k1, k2, k3, k4]
    · simp [f_X9_rule_F, x_X8_rule_F, k1, k2, k3, k4]
    · simp [f_X9_rule_F, x_X8_rule_F, k1, k2, k3, k4]
    · simp [f_X9_rule_F, x_X8_rule_F, k1, k2, k3, k4]
    · obtain ⟨a1, a2, a3, a4, a5, a6, a7, a8, a9, a10⟩ := fn_pos h
      simp [f_X9_rule_F, x_X8_rule_F, k1, k2, k3, k4, h, a1, a2, a3, a4, a5, a6, a7, a8, a9, a10]
theorem cv_rule {kd fn : Int32} (fo : Nat → Int64) (h : f_L_rule_F kd fn = 0) : lg_cmp (w_L_rule_F_ob kd fn fo 0) ((f_X9_rule_F kd fn).toInt64) = 0 := by
  unfold w_L_rule_F_ob
  rw [if_pos (rule_ok h), pk_uLs, rule_one kd fn (rule_ok h)]; exact lg_self _
