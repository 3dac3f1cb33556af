/-! ===== the reference: listen, refused ===== -/
section MLISTEN4
variable {d : Nat} {t : List px_E} {g : hG} {cn sn : Nat} {w a k : Rw} {x : Int32}
theorem m_listen_n (hx : ¬ (0 ≤ x.toInt ∧ x.toInt ≤ 1)) : bc (d + 1) M_X10_listen none 0 [some (.ref 49), some (.int x), none, none, none, none] [] (hp t (gM g w a k)) cn sn = some (.inl (some (.int 0)), hp t (gM (hI g 49 2 1) w a k), cn, sn) := by
  by_cases h : x < 0
  · simp (disch := omega) only [st_X10_listen_0, st_X10_listen_1, st_X10_listen_2, st_X10_listen_5, st_X10_listen_6, st_X10_listen_14, st_X10_listen_15, st_X10_listen_19, st_X10_listen_16 (p := 49) hq_49 ps_, bM_some, hs_49_2, gM_hI49, h, if_true, m_fail, hI_hI, bC_inl, Option.toList, List.cons_append, List.nil_append, Nat.add_zero, Nat.reduceAdd]
  · have h1 : (1 : Int32) < x := by
      rw [Int32.lt_iff_toInt_lt] at h ⊢
      have e0 : (0 : Int32).toInt = 0 := rfl
      have e1 : (1 : Int32).toInt = 1 := rfl
      omega
    simp (disch := omega) only [st_X10_listen_0, st_X10_listen_1, st_X10_listen_2, st_X10_listen_5, st_X10_listen_6, st_X10_listen_9, st_X10_listen_10, st_X10_listen_11, st_X10_listen_14, st_X10_listen_15, st_X10_listen_19, st_X10_listen_16 (p := 49) hq_49 ps_, bM_some, hs_49_2, gM_hI49, h, h1, if_true, if_false, m_fail, hI_hI, bC_inl, Option.toList, List.cons_append, List.nil_append, Nat.add_zero, Nat.reduceAdd]
end MLISTEN4
