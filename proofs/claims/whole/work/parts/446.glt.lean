section
theorem s_gA_lt {s n : Nat} (hs : s ≤ 5) (hn : n ≤ 500000000) : s_gA s n < 2 ^ 34 := by have := s_gX_lt (b := false) hs hn; rw [s_gX_f] at this; exact this
theorem s_gB_lt {s n : Nat} (hs : s ≤ 5) (hn : n ≤ 500000000) : s_gB s n < 2 ^ 34 := by have := s_gX_lt (b := true) hs hn; rw [s_gX_t] at this; exact this
theorem s_li_le (s : Nat) (b : Bool) (v : Nat) : s_li s b v ≤ v := s_first_le _ _
end
