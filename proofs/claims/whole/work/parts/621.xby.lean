/-! A WORD'S BYTES: shifted without its sign -/
section
theorem x_shv (v : BitVec 32) (k : Nat) (hk : k ≤ 24) : (v >>> k) &&& 255#32 = (v.sshiftRight k) &&& 255#32 := by
  apply BitVec.eq_of_getLsbD_eq
  intro i hi
  have e : ∀ i : Fin 32, ¬ i.val < 8 → (255#32).getLsbD i.val = false := by decide +kernel
  rw [BitVec.getLsbD_and, BitVec.getLsbD_and, BitVec.getLsbD_ushiftRight, BitVec.getLsbD_sshiftRight]
  by_cases h : i < 8
  · have h1 : decide (32 ≤ i) = false := decide_eq_false (by omega)
    rw [h1, if_pos (show k + i < 32 by omega)]; simp
  · rw [e ⟨i, hi⟩ h, Bool.and_false, Bool.and_false]
theorem x_by (a : Int32) (k : Nat) (hk : k = 24 ∨ k = 16 ∨ k = 8 ∨ k = 0) : ((a.toUInt32 >>> ((nI k).toUInt32 &&& Int32.toUInt32 31)).toInt32) &&& nI 255 = nI (s_by a k) := by
  rw [← (s_by_eq a k).1]
  rcases hk with rfl | rfl | rfl | rfl
  · apply Int32.toBitVec_inj.mp
    exact x_shv a.toBitVec 24 (by decide)
  · apply Int32.toBitVec_inj.mp
    exact x_shv a.toBitVec 16 (by decide)
  · apply Int32.toBitVec_inj.mp
    exact x_shv a.toBitVec 8 (by decide)
  · apply Int32.toBitVec_inj.mp
    exact x_shv a.toBitVec 0 (by decide)
end
