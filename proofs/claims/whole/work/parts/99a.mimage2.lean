/-! ===== image and restore of the reference ===== -/
def gIm (g : hG) (w : Rw) : hG := hR (hR (hR (hR (hR (hI (hI (hI (hI g 49 2 0) 49 50 1) 49 51 (g.1 49 34)) 49 52 (g.1 49 35)) 83 (packR (g.1 83) 0 w)) 84 (cpN (g.1 71) (g.1 84) 2160)) 85 (cpN (g.1 78) (g.1 85) 8)) 86 (cpN (g.1 79) (g.1 86) 8)) 87 (cpN (g.1 62) (g.1 87) 3)
def gRe (g : hG) : hG := hR (hR (hR (hR (hI (hI (hI g 49 2 0) 49 34 (g.1 49 51)) 49 35 (g.1 49 52)) 71 (cpN (g.1 84) (g.1 71) 2160)) 78 (cpN (g.1 85) (g.1 78) 8)) 79 (cpN (g.1 86) (g.1 79) 8)) 62 (cpN (g.1 87) (g.1 62) 3)
section MIMG
variable {d pc : Nat} {t : List px_E} {g : hG} {cn sn : Nat} {w a k : Rw}
set_option maxHeartbeats 4000000 in
theorem m_image : bc (d + 1) M_X10_image none 0 [some (.ref 49)] [] (hp t (gM g w a k)) cn sn = some (.inl none, hp t (gM (gIm g w) w a k), cn, sn) := by
  have e1 := m_pack_83 (d := d) (t := t) (g := hI (hI (hI (hI g 49 2 0) 49 50 1) 49 51 (g.1 49 34)) 49 52 (g.1 49 35)) (w := w) (a := a) (k := k) (cn := 0) (sn := 0) (b := 0) (by omega)
  rw [show Int32.ofNat 0 = (0 : Int32) from rfl] at e1
  have f1 : (hI (hI g 49 2 0) 49 50 1).1 49 34 = g.1 49 34 := rfl
  have f2 : (hI (hI (hI g 49 2 0) 49 50 1) 49 51 (g.1 49 34)).1 49 35 = g.1 49 35 := rfl
  simp (disch := omega) only [st_X10_image_0, st_X10_image_1, bM_some, hs_49_2, st_X10_image_2, st_X10_image_5, st_X10_image_6, hs_49_50_0, hs_49_50_1, st_X10_image_7, st_X10_image_10, st_X10_image_11, hg_49_34, st_X10_image_12, hs_49_51, st_X10_image_15, st_X10_image_18, st_X10_image_19, hg_49_35, st_X10_image_20, hs_49_52, st_X10_image_23, st_X10_image_26, st_X10_image_27, hg_49_53, st_X10_image_28, st_X10_image_31, st_X10_image_32 (p := 49) hq_49 ps_, bC_inl, Option.toList, List.cons_append, List.nil_append, Nat.add_zero, st_X10_image_35, hg_49_54, st_X10_image_36, st_X10_image_39, hg_49_32, st_X10_image_40, st_X10_image_43 ps_, st_X10_image_46, hg_49_55, st_X10_image_47, st_X10_image_50, hg_49_43, st_X10_image_51, st_X10_image_54 ps_, st_X10_image_57, hg_49_56, st_X10_image_58, st_X10_image_61, hg_49_44, st_X10_image_62, st_X10_image_65 ps_, st_X10_image_68, hg_49_57, st_X10_image_69, st_X10_image_72, hg_49_13, st_X10_image_73, st_X10_image_76 ps_, st_X10_image_79, Nat.reduceAdd, gM_hI49, gM_49, f1, f2, e1, m_be84, m_be85, m_be86, m_be87]
  rfl
theorem m_restore_n (h : g.1 49 50 = 0) : bc (d + 1) M_X10_restore none 0 [some (.ref 49)] [] (hp t (gM g w a k)) cn sn = some (.inl (some (.int 0)), hp t (gM (hI g 49 2 0) w a k), cn, sn) := by
  have f1 : (hI g 49 2 0).1 49 50 = 0 := h
  simp (disch := omega) only [st_X10_restore_0, st_X10_restore_1, st_X10_restore_2, st_X10_restore_5, st_X10_restore_6, st_X10_restore_9, st_X10_restore_12, st_X10_restore_13, st_X10_restore_13b, bM_some, hs_49_2, hg_49_50, gM_hI49, gM_49, f1, if_true, Nat.reduceAdd]
set_option maxHeartbeats 4000000 in
theorem m_restore_y (h : g.1 49 50 = 1) : bc (d + 1) M_X10_restore none 0 [some (.ref 49)] [] (hp t (gM g w a k)) cn sn = some (.inl (some (.int 1)), hp t (gM (gRe g) (unpR (g.1 83) 0) a k), cn, sn) := by
  have f0 : (hI g 49 2 0).1 49 50 = 1 := h
  have e1 := m_unpack_83 (d := d) (t := t) (g := hI (hI (hI g 49 2 0) 49 34 (g.1 49 51)) 49 35 (g.1 49 52)) (w := w) (a := a) (k := k) (cn := 0) (sn := 0) (b := 0) (by omega)
  rw [show Int32.ofNat 0 = (0 : Int32) from rfl] at e1
  have f1 : (hI g 49 2 0).1 49 51 = g.1 49 51 := rfl
  have f2 : (hI (hI g 49 2 0) 49 34 (g.1 49 51)).1 49 52 = g.1 49 52 := rfl
  simp (disch := omega) only [st_X10_restore_0, st_X10_restore_1, bM_some, hs_49_2, st_X10_restore_2, st_X10_restore_5, hg_49_50, st_X10_restore_6, st_X10_restore_9, st_X10_restore_12, st_X10_restore_13, st_X10_restore_13b, st_X10_restore_14, st_X10_restore_15, hg_49_51, st_X10_restore_16, hs_49_34, st_X10_restore_19, st_X10_restore_22, st_X10_restore_23, hg_49_52, st_X10_restore_24, hs_49_35, st_X10_restore_27, st_X10_restore_30, st_X10_restore_31, hg_49_53, st_X10_restore_32, st_X10_restore_35, st_X10_restore_36 (p := 49) hq_49 ps_, bC_inl, Option.toList, List.cons_append, List.nil_append, Nat.add_zero, st_X10_restore_39, hg_49_32, st_X10_restore_40, st_X10_restore_43, hg_49_54, st_X10_restore_44, st_X10_restore_47 ps_, st_X10_restore_50, hg_49_43, st_X10_restore_51, st_X10_restore_54, hg_49_55, st_X10_restore_55, st_X10_restore_58 ps_, st_X10_restore_61, hg_49_44, st_X10_restore_62, st_X10_restore_65, hg_49_56, st_X10_restore_66, st_X10_restore_69 ps_, st_X10_restore_72, hg_49_13, st_X10_restore_73, st_X10_restore_76, hg_49_57, st_X10_restore_77, st_X10_restore_80 ps_, st_X10_restore_83, st_X10_restore_84, st_X10_restore_84b, Nat.reduceAdd, gM_hI49, gM_49, f0, f1, f2, nn_one0, if_false, e1, m_be71, m_be78, m_be79, m_be62]
  rfl
end MIMG
