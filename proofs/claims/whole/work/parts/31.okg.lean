/-! ===== printed by wip/whole/gen.py: the methods of the tables are right ===== -/
set_option maxRecDepth 20000 in
theorem de_L_stove : px_dec cL_stove (ls_L_stove ++ ll_L_stove) := by unfold px_dec; decide +kernel
set_option maxRecDepth 20000 in
set_option maxHeartbeats 4000000 in
theorem lk_L_stove : ∀ q ∈ ll_L_stove, px_okR kt_mt kt_T vwCl kt_X yL_stove cL_stove q.1 q.2 := List.forall_mem_cons.mpr ⟨px_k_vir (by decide) mt_84 ⟨rfl, kw_1010, kw_1011, kw_1012, ⟨_, _, rfl⟩, pd_84⟩, fun _ h => nomatch h⟩
set_option maxRecDepth 20000 in
theorem ok_L_stove : px_okMt kt_mt kt_T vwCl kt_X M_L_stove := px_mk (M := M_L_stove) rfl (by decide) ⟨by decide, by decide⟩ (by decide) kw_998 kw_1013 ⟨by decide, by decide, kw_1005, trivial⟩ de_L_stove (by decide +kernel) lk_L_stove
set_option maxRecDepth 20000 in
theorem de_L_dish : px_dec cL_dish (ls_L_dish ++ ll_L_dish) := by unfold px_dec; decide +kernel
set_option maxRecDepth 20000 in
set_option maxHeartbeats 4000000 in
theorem lk_L_dish : ∀ q ∈ ll_L_dish, px_okR kt_mt kt_T vwCl kt_X yL_dish cL_dish q.1 q.2 := List.forall_mem_cons.mpr ⟨px_k_vir (by decide) mt_85 ⟨rfl, kw_1014, kw_1015, kw_1016, ⟨_, _, rfl⟩, pd_85⟩, fun _ h => nomatch h⟩
set_option maxRecDepth 20000 in
theorem ok_L_dish : px_okMt kt_mt kt_T vwCl kt_X M_L_dish := px_mk (M := M_L_dish) rfl (by decide) ⟨by decide, by decide⟩ (by decide) kw_998 kw_1017 ⟨by decide, by decide, kw_1005, trivial⟩ de_L_dish (by decide +kernel) lk_L_dish
set_option maxRecDepth 20000 in
theorem de_L_put : px_dec cL_put (ls_L_put ++ ll_L_put) := by unfold px_dec; decide +kernel
set_option maxRecDepth 20000 in
set_option maxHeartbeats 4000000 in
theorem lk_L_put : ∀ q ∈ ll_L_put, px_okR kt_mt kt_T vwCl kt_X yL_put cL_put q.1 q.2 := List.forall_mem_cons.mpr ⟨px_k_vir (by decide) mt_87 ⟨rfl, kw_1018, kw_1019, kw_1020, ⟨_, _, rfl⟩, pd_87⟩, fun _ h => nomatch h⟩
set_option maxRecDepth 20000 in
theorem ok_L_put : px_okMt kt_mt kt_T vwCl kt_X M_L_put := px_mk (M := M_L_put) rfl (by decide) ⟨by decide, by decide⟩ (by decide) kw_998 kw_1021 ⟨by decide, by decide, kw_1005, trivial⟩ de_L_put (by decide +kernel) lk_L_put
set_option maxRecDepth 20000 in
theorem de_L_lift : px_dec cL_lift (ls_L_lift ++ ll_L_lift) := by unfold px_dec; decide +kernel
set_option maxRecDepth 20000 in
set_option maxHeartbeats 4000000 in
theorem lk_L_lift : ∀ q ∈ ll_L_lift, px_okR kt_mt kt_T vwCl kt_X yL_lift cL_lift q.1 q.2 := List.forall_mem_cons.mpr ⟨px_k_vir (by decide) mt_88 ⟨rfl, kw_1022, kw_1023, kw_1024, ⟨_, _, rfl⟩, pd_88⟩, fun _ h => nomatch h⟩
set_option maxRecDepth 20000 in
theorem ok_L_lift : px_okMt kt_mt kt_T vwCl kt_X M_L_lift := px_mk (M := M_L_lift) rfl (by decide) ⟨by decide, by decide⟩ (by decide) kw_998 kw_1025 ⟨by decide, by decide, kw_1005, trivial⟩ de_L_lift (by decide +kernel) lk_L_lift
set_option maxRecDepth 20000 in
theorem de_L_pour : px_dec cL_pour (ls_L_pour ++ ll_L_pour) := by unfold px_dec; decide +kernel
set_option maxRecDepth 20000 in
set_option maxHeartbeats 4000000 in
theorem lk_L_pour : ∀ q ∈ ll_L_pour, px_okR kt_mt kt_T vwCl kt_X yL_pour cL_pour q.1 q.2 := List.forall_mem_cons.mpr ⟨px_k_vir (by decide) mt_89 ⟨rfl, kw_1026, kw_1027, kw_1028, ⟨_, _, rfl⟩, pd_89⟩, fun _ h => nomatch h⟩
set_option maxRecDepth 20000 in
theorem ok_L_pour : px_okMt kt_mt kt_T vwCl kt_X M_L_pour := px_mk (M := M_L_pour) rfl (by decide) ⟨by decide, by decide⟩ (by decide) kw_998 kw_1029 ⟨by decide, by decide, kw_1005, trivial⟩ de_L_pour (by decide +kernel) lk_L_pour
set_option maxRecDepth 20000 in
theorem de_L_scrape : px_dec cL_scrape (ls_L_scrape ++ ll_L_scrape) := by unfold px_dec; decide +kernel
set_option maxRecDepth 20000 in
set_option maxHeartbeats 4000000 in
theorem lk_L_scrape : ∀ q ∈ ll_L_scrape, px_okR kt_mt kt_T vwCl kt_X yL_scrape cL_scrape q.1 q.2 := List.forall_mem_cons.mpr ⟨px_k_vir (by decide) mt_90 ⟨rfl, kw_1030, kw_1031, kw_1032, ⟨_, _, rfl⟩, pd_90⟩, fun _ h => nomatch h⟩
set_option maxRecDepth 20000 in
theorem ok_L_scrape : px_okMt kt_mt kt_T vwCl kt_X M_L_scrape := px_mk (M := M_L_scrape) rfl (by decide) ⟨by decide, by decide⟩ (by decide) kw_998 kw_1033 ⟨by decide, by decide, kw_1005, trivial⟩ de_L_scrape (by decide +kernel) lk_L_scrape
set_option maxRecDepth 20000 in
theorem de_L_then : px_dec cL_then (ls_L_then ++ ll_L_then) := by unfold px_dec; decide +kernel
set_option maxRecDepth 20000 in
set_option maxHeartbeats 4000000 in
theorem lk_L_then : ∀ q ∈ ll_L_then, px_okR kt_mt kt_T vwCl kt_X yL_then cL_then q.1 q.2 := List.forall_mem_cons.mpr ⟨px_k_vir (by decide) mt_92 ⟨rfl, kw_1034, kw_1035, kw_1036, ⟨_, _, rfl⟩, pd_92⟩, fun _ h => nomatch h⟩
set_option maxRecDepth 20000 in
theorem ok_L_then : px_okMt kt_mt kt_T vwCl kt_X M_L_then := px_mk (M := M_L_then) rfl (by decide) ⟨by decide, by decide⟩ (by decide) kw_998 kw_1037 ⟨by decide, by decide, kw_1005, ⟨by decide, by decide, kw_1000, trivial⟩⟩ de_L_then (by decide +kernel) lk_L_then
set_option maxRecDepth 20000 in
theorem de_L_sung : px_dec cL_sung (ls_L_sung ++ ll_L_sung) := by unfold px_dec; decide +kernel
set_option maxRecDepth 20000 in
set_option maxHeartbeats 4000000 in
theorem lk_L_sung : ∀ q ∈ ll_L_sung, px_okR kt_mt kt_T vwCl kt_X yL_sung cL_sung q.1 q.2 := List.forall_mem_cons.mpr ⟨px_k_vir (by decide) mt_93 ⟨rfl, kw_1038, kw_1039, kw_1040, ⟨_, _, rfl⟩, pd_93⟩, fun _ h => nomatch h⟩
set_option maxRecDepth 20000 in
theorem ok_L_sung : px_okMt kt_mt kt_T vwCl kt_X M_L_sung := px_mk (M := M_L_sung) rfl (by decide) ⟨by decide, by decide⟩ (by decide) kw_998 kw_1041 ⟨by decide, by decide, kw_1005, trivial⟩ de_L_sung (by decide +kernel) lk_L_sung
set_option maxRecDepth 20000 in
theorem de_L_done : px_dec cL_done (ls_L_done ++ ll_L_done) := by unfold px_dec; decide +kernel
set_option maxRecDepth 20000 in
set_option maxHeartbeats 4000000 in
theorem lk_L_done : ∀ q ∈ ll_L_done, px_okR kt_mt kt_T vwCl kt_X yL_done cL_done q.1 q.2 := List.forall_mem_cons.mpr ⟨px_k_vir (by decide) mt_94 ⟨rfl, kw_1042, kw_1043, kw_1044, ⟨_, _, rfl⟩, pd_94⟩, fun _ h => nomatch h⟩
set_option maxRecDepth 20000 in
theorem ok_L_done : px_okMt kt_mt kt_T vwCl kt_X M_L_done := px_mk (M := M_L_done) rfl (by decide) ⟨by decide, by decide⟩ (by decide) kw_998 kw_1045 ⟨by decide, by decide, kw_1005, trivial⟩ de_L_done (by decide +kernel) lk_L_done
set_option maxRecDepth 20000 in
theorem de_L_fugue : px_dec cL_fugue (ls_L_fugue ++ ll_L_fugue) := by unfold px_dec; decide +kernel
set_option maxRecDepth 20000 in
set_option maxHeartbeats 4000000 in
theorem lk_L_fugue : ∀ q ∈ ll_L_fugue, px_okR kt_mt kt_T vwCl kt_X yL_fugue cL_fugue q.1 q.2 := List.forall_mem_cons.mpr ⟨px_k_vir (by decide) mt_95 ⟨rfl, kw_1046, kw_1047, kw_1048, ⟨_, _, rfl⟩, pd_95⟩, fun _ h => nomatch h⟩
set_option maxRecDepth 20000 in
theorem ok_L_fugue : px_okMt kt_mt kt_T vwCl kt_X M_L_fugue := px_mk (M := M_L_fugue) rfl (by decide) ⟨by decide, by decide⟩ (by decide) kw_998 kw_1049 ⟨by decide, by decide, kw_1000, trivial⟩ de_L_fugue (by decide +kernel) lk_L_fugue
set_option maxRecDepth 20000 in
theorem de_L_loudest : px_dec cL_loudest (ls_L_loudest ++ ll_L_loudest) := by unfold px_dec; decide +kernel
set_option maxRecDepth 20000 in
set_option maxHeartbeats 4000000 in
theorem lk_L_loudest : ∀ q ∈ ll_L_loudest, px_okR kt_mt kt_T vwCl kt_X yL_loudest cL_loudest q.1 q.2 := List.forall_mem_cons.mpr ⟨px_k_vir (by decide) mt_97 ⟨rfl, kw_1050, kw_1051, kw_1052, ⟨_, _, rfl⟩, pd_97⟩, fun _ h => nomatch h⟩
set_option maxRecDepth 20000 in
theorem ok_L_loudest : px_okMt kt_mt kt_T vwCl kt_X M_L_loudest := px_mk (M := M_L_loudest) rfl (by decide) ⟨by decide, by decide⟩ (by decide) kw_998 kw_1053 ⟨by decide, by decide, kw_1005, trivial⟩ de_L_loudest (by decide +kernel) lk_L_loudest
set_option maxRecDepth 20000 in
theorem de_L_dry : px_dec cL_dry (ls_L_dry ++ ll_L_dry) := by unfold px_dec; decide +kernel
set_option maxRecDepth 20000 in
set_option maxHeartbeats 4000000 in
theorem lk_L_dry : ∀ q ∈ ll_L_dry, px_okR kt_mt kt_T vwCl kt_X yL_dry cL_dry q.1 q.2 := List.forall_mem_cons.mpr ⟨px_k_vir (by decide) mt_98 ⟨rfl, kw_1054, kw_1055, kw_1056, ⟨_, _, rfl⟩, pd_98⟩, fun _ h => nomatch h⟩
set_option maxRecDepth 20000 in
theorem ok_L_dry : px_okMt kt_mt kt_T vwCl kt_X M_L_dry := px_mk (M := M_L_dry) rfl (by decide) ⟨by decide, by decide⟩ (by decide) kw_998 kw_1057 ⟨by decide, by decide, kw_1005, trivial⟩ de_L_dry (by decide +kernel) lk_L_dry
set_option maxRecDepth 20000 in
theorem de_L_soonest : px_dec cL_soonest (ls_L_soonest ++ ll_L_soonest) := by unfold px_dec; decide +kernel
set_option maxRecDepth 20000 in
set_option maxHeartbeats 4000000 in
theorem lk_L_soonest : ∀ q ∈ ll_L_soonest, px_okR kt_mt kt_T vwCl kt_X yL_soonest cL_soonest q.1 q.2 := List.forall_mem_cons.mpr ⟨px_k_vir (by decide) mt_99 ⟨rfl, kw_1058, kw_1059, kw_1060, ⟨_, _, rfl⟩, pd_99⟩, fun _ h => nomatch h⟩
set_option maxRecDepth 20000 in
theorem ok_L_soonest : px_okMt kt_mt kt_T vwCl kt_X M_L_soonest := px_mk (M := M_L_soonest) rfl (by decide) ⟨by decide, by decide⟩ (by decide) kw_998 kw_1061 ⟨by decide, by decide, kw_1005, trivial⟩ de_L_soonest (by decide +kernel) lk_L_soonest
set_option maxRecDepth 20000 in
theorem de_L_tuned : px_dec cL_tuned (ls_L_tuned ++ ll_L_tuned) := by unfold px_dec; decide +kernel
set_option maxRecDepth 20000 in
set_option maxHeartbeats 4000000 in
theorem lk_L_tuned : ∀ q ∈ ll_L_tuned, px_okR kt_mt kt_T vwCl kt_X yL_tuned cL_tuned q.1 q.2 := List.forall_mem_cons.mpr ⟨px_k_vir (by decide) mt_100 ⟨rfl, kw_1062, kw_1063, kw_1064, ⟨_, _, rfl⟩, pd_100⟩, fun _ h => nomatch h⟩
set_option maxRecDepth 20000 in
theorem ok_L_tuned : px_okMt kt_mt kt_T vwCl kt_X M_L_tuned := px_mk (M := M_L_tuned) rfl (by decide) ⟨by decide, by decide⟩ (by decide) kw_998 kw_1065 ⟨by decide, by decide, kw_1005, ⟨by decide, by decide, kw_1000, trivial⟩⟩ de_L_tuned (by decide +kernel) lk_L_tuned
set_option maxRecDepth 20000 in
theorem de_L_chord : px_dec cL_chord (ls_L_chord ++ ll_L_chord) := by unfold px_dec; decide +kernel
set_option maxRecDepth 20000 in
set_option maxHeartbeats 4000000 in
theorem lk_L_chord : ∀ q ∈ ll_L_chord, px_okR kt_mt kt_T vwCl kt_X yL_chord cL_chord q.1 q.2 := List.forall_mem_cons.mpr ⟨px_k_vir (by decide) mt_101 ⟨rfl, kw_1066, kw_1067, kw_1068, ⟨_, _, rfl⟩, pd_101⟩, fun _ h => nomatch h⟩
set_option maxRecDepth 20000 in
theorem ok_L_chord : px_okMt kt_mt kt_T vwCl kt_X M_L_chord := px_mk (M := M_L_chord) rfl (by decide) ⟨by decide, by decide⟩ (by decide) kw_998 kw_1069 ⟨by decide, by decide, kw_1005, trivial⟩ de_L_chord (by decide +kernel) lk_L_chord
set_option maxRecDepth 20000 in
theorem de_L_burner : px_dec cL_burner (ls_L_burner ++ ll_L_burner) := by unfold px_dec; decide +kernel
set_option maxRecDepth 20000 in
set_option maxHeartbeats 4000000 in
theorem lk_L_burner : ∀ q ∈ ll_L_burner, px_okR kt_mt kt_T vwCl kt_X yL_burner cL_burner q.1 q.2 := List.forall_mem_cons.mpr ⟨px_k_vir (by decide) mt_102 ⟨rfl, kw_1070, kw_1071, kw_1072, ⟨_, _, rfl⟩, pd_102⟩, fun _ h => nomatch h⟩
set_option maxRecDepth 20000 in
theorem ok_L_burner : px_okMt kt_mt kt_T vwCl kt_X M_L_burner := px_mk (M := M_L_burner) rfl (by decide) ⟨by decide, by decide⟩ (by decide) kw_998 kw_1073 ⟨by decide, by decide, kw_1005, ⟨by decide, by decide, kw_1000, trivial⟩⟩ de_L_burner (by decide +kernel) lk_L_burner
set_option maxRecDepth 20000 in
theorem de_L_together : px_dec cL_together (ls_L_together ++ ll_L_together) := by unfold px_dec; decide +kernel
set_option maxRecDepth 20000 in
set_option maxHeartbeats 4000000 in
theorem lk_L_together : ∀ q ∈ ll_L_together, px_okR kt_mt kt_T vwCl kt_X yL_together cL_together q.1 q.2 := List.forall_mem_cons.mpr ⟨px_k_vir (by decide) mt_103 ⟨rfl, kw_1074, kw_1075, kw_1076, ⟨_, _, rfl⟩, pd_103⟩, fun _ h => nomatch h⟩
set_option maxRecDepth 20000 in
theorem ok_L_together : px_okMt kt_mt kt_T vwCl kt_X M_L_together := px_mk (M := M_L_together) rfl (by decide) ⟨by decide, by decide⟩ (by decide) kw_998 kw_1077 ⟨by decide, by decide, kw_1005, ⟨by decide, by decide, kw_1000, trivial⟩⟩ de_L_together (by decide +kernel) lk_L_together
set_option maxRecDepth 20000 in
theorem de_L_chalk : px_dec cL_chalk (ls_L_chalk ++ ll_L_chalk) := by unfold px_dec; decide +kernel
set_option maxRecDepth 20000 in
set_option maxHeartbeats 4000000 in
theorem lk_L_chalk : ∀ q ∈ ll_L_chalk, px_okR kt_mt kt_T vwCl kt_X yL_chalk cL_chalk q.1 q.2 := List.forall_mem_cons.mpr ⟨px_k_vir (by decide) mt_105 ⟨rfl, kw_1078, kw_1079, kw_1080, ⟨_, _, rfl⟩, pd_105⟩, fun _ h => nomatch h⟩
set_option maxRecDepth 20000 in
theorem ok_L_chalk : px_okMt kt_mt kt_T vwCl kt_X M_L_chalk := px_mk (M := M_L_chalk) rfl (by decide) ⟨by decide, by decide⟩ (by decide) kw_998 kw_1081 ⟨by decide, by decide, kw_1005, trivial⟩ de_L_chalk (by decide +kernel) lk_L_chalk
set_option maxRecDepth 20000 in
theorem de_L_listen : px_dec cL_listen (ls_L_listen ++ ll_L_listen) := by unfold px_dec; decide +kernel
set_option maxRecDepth 20000 in
set_option maxHeartbeats 4000000 in
theorem lk_L_listen : ∀ q ∈ ll_L_listen, px_okR kt_mt kt_T vwCl kt_X yL_listen cL_listen q.1 q.2 := List.forall_mem_cons.mpr ⟨px_k_vir (by decide) mt_106 ⟨rfl, kw_1082, kw_1083, kw_1084, ⟨_, _, rfl⟩, pd_106⟩, fun _ h => nomatch h⟩
set_option maxRecDepth 20000 in
theorem ok_L_listen : px_okMt kt_mt kt_T vwCl kt_X M_L_listen := px_mk (M := M_L_listen) rfl (by decide) ⟨by decide, by decide⟩ (by decide) kw_998 kw_1085 ⟨by decide, by decide, kw_1005, trivial⟩ de_L_listen (by decide +kernel) lk_L_listen
set_option maxRecDepth 20000 in
theorem de_L_game : px_dec cL_game (ls_L_game ++ ll_L_game) := by unfold px_dec; decide +kernel
set_option maxRecDepth 20000 in
set_option maxHeartbeats 4000000 in
theorem lk_L_game : ∀ q ∈ ll_L_game, px_okR kt_mt kt_T vwCl kt_X yL_game cL_game q.1 q.2 := List.forall_mem_cons.mpr ⟨px_k_vir (by decide) mt_108 ⟨rfl, kw_1086, kw_1087, kw_1088, ⟨_, _, rfl⟩, pd_108⟩, fun _ h => nomatch h⟩
set_option maxRecDepth 20000 in
theorem ok_L_game : px_okMt kt_mt kt_T vwCl kt_X M_L_game := px_mk (M := M_L_game) rfl (by decide) ⟨by decide, by decide⟩ (by decide) kw_998 kw_1089 ⟨by decide, by decide, kw_1005, ⟨by decide, by decide, kw_1000, trivial⟩⟩ de_L_game (by decide +kernel) lk_L_game
set_option maxRecDepth 20000 in
theorem de_L_evening : px_dec cL_evening (ls_L_evening ++ ll_L_evening) := by unfold px_dec; decide +kernel
set_option maxRecDepth 20000 in
set_option maxHeartbeats 4000000 in
theorem lk_L_evening : ∀ q ∈ ll_L_evening, px_okR kt_mt kt_T vwCl kt_X yL_evening cL_evening q.1 q.2 := List.forall_mem_cons.mpr ⟨px_k_vir (by decide) mt_109 ⟨rfl, kw_1090, kw_1091, kw_1092, ⟨_, _, rfl⟩, pd_109⟩, fun _ h => nomatch h⟩
set_option maxRecDepth 20000 in
theorem ok_L_evening : px_okMt kt_mt kt_T vwCl kt_X M_L_evening := px_mk (M := M_L_evening) rfl (by decide) ⟨by decide, by decide⟩ (by decide) kw_998 kw_1093 ⟨by decide, by decide, kw_1005, ⟨by decide, by decide, kw_1000, trivial⟩⟩ de_L_evening (by decide +kernel) lk_L_evening
theorem px_dec_cut {cc : ByteArray} {l : List (Nat × px_En)} (k : Nat) (h1 : px_dec cc ((l.drop k).take 100)) (h2 : px_dec cc (l.drop (k + 100))) : px_dec cc (l.drop k) := by
  intro q hq
  rw [← List.take_append_drop 100 (l.drop k)] at hq
  rcases List.mem_append.mp hq with h | h
  · exact h1 q h
  · rw [List.drop_drop] at h
    exact h2 q h
set_option maxRecDepth 20000 in
theorem de_L_law_0 : px_dec cL_law (((ls_L_law ++ ll_L_law).drop 0).take 100) := by unfold px_dec; decide +kernel
set_option maxRecDepth 20000 in
theorem de_L_law_100 : px_dec cL_law (((ls_L_law ++ ll_L_law).drop 100).take 100) := by unfold px_dec; decide +kernel
set_option maxRecDepth 20000 in
theorem de_L_law_200 : px_dec cL_law (((ls_L_law ++ ll_L_law).drop 200).take 100) := by unfold px_dec; decide +kernel
set_option maxRecDepth 20000 in
theorem de_L_law_300 : px_dec cL_law (((ls_L_law ++ ll_L_law).drop 300).take 100) := by unfold px_dec; decide +kernel
set_option maxRecDepth 20000 in
theorem de_L_law_400 : px_dec cL_law (((ls_L_law ++ ll_L_law).drop 400).take 100) := by unfold px_dec; decide +kernel
set_option maxRecDepth 20000 in
theorem de_L_law_500 : px_dec cL_law (((ls_L_law ++ ll_L_law).drop 500).take 100) := by unfold px_dec; decide +kernel
set_option maxRecDepth 20000 in
theorem de_L_law_600 : px_dec cL_law (((ls_L_law ++ ll_L_law).drop 600).take 100) := by unfold px_dec; decide +kernel
set_option maxRecDepth 20000 in
theorem de_L_law_700 : px_dec cL_law (((ls_L_law ++ ll_L_law).drop 700).take 100) := by unfold px_dec; decide +kernel
set_option maxRecDepth 20000 in
theorem de_L_law_800 : px_dec cL_law (((ls_L_law ++ ll_L_law).drop 800).take 100) := by unfold px_dec; decide +kernel
set_option maxRecDepth 20000 in
theorem de_L_law_900 : px_dec cL_law (((ls_L_law ++ ll_L_law).drop 900).take 100) := by unfold px_dec; decide +kernel
set_option maxRecDepth 20000 in
theorem de_L_law_1000 : px_dec cL_law (((ls_L_law ++ ll_L_law).drop 1000).take 100) := by unfold px_dec; decide +kernel
set_option maxRecDepth 20000 in
theorem de_L_law_1100 : px_dec cL_law (((ls_L_law ++ ll_L_law).drop 1100).take 100) := by unfold px_dec; decide +kernel
set_option maxRecDepth 20000 in
theorem de_L_law_end : px_dec cL_law ((ls_L_law ++ ll_L_law).drop 1200) := by unfold px_dec; decide +kernel
theorem de_L_law : px_dec cL_law (ls_L_law ++ ll_L_law) := px_dec_cut 0 de_L_law_0 (px_dec_cut 100 de_L_law_100 (px_dec_cut 200 de_L_law_200 (px_dec_cut 300 de_L_law_300 (px_dec_cut 400 de_L_law_400 (px_dec_cut 500 de_L_law_500 (px_dec_cut 600 de_L_law_600 (px_dec_cut 700 de_L_law_700 (px_dec_cut 800 de_L_law_800 (px_dec_cut 900 de_L_law_900 (px_dec_cut 1000 de_L_law_1000 (px_dec_cut 1100 de_L_law_1100 (de_L_law_end))))))))))))
set_option maxRecDepth 20000 in
set_option maxHeartbeats 4000000 in
theorem lk_L_law : ∀ q ∈ ll_L_law, px_okR kt_mt kt_T vwCl kt_X yL_law cL_law q.1 q.2 := List.forall_mem_cons.mpr ⟨px_k_new (C := RX9) (T := TX9) (by decide) rfl kw_1094, List.forall_mem_cons.mpr ⟨px_k_spe (by decide) mt_78 ⟨rfl, rfl, rfl, kw_1096, pd_78, Or.inl kw_1095⟩, List.forall_mem_cons.mpr ⟨px_k_new (C := RX10) (T := TX10) (by decide) rfl kw_1097, List.forall_mem_cons.mpr ⟨px_k_spe (by decide) mt_132 ⟨rfl, rfl, rfl, kw_1099, pd_132, Or.inl kw_1098⟩, List.forall_mem_cons.mpr ⟨px_k_arr (Or.inr (Or.inl ⟨rfl, rfl, kw_19⟩)), List.forall_mem_cons.mpr ⟨px_k_vir (by decide) mt_79 ⟨rfl, kw_1100, kw_1101, kw_1102, ⟨_, _, rfl⟩, pd_79⟩, List.forall_mem_cons.mpr ⟨px_k_vir (by decide) mt_141 ⟨rfl, kw_1103, kw_1104, kw_1105, ⟨_, _, rfl⟩, pd_141⟩, List.forall_mem_cons.mpr ⟨px_k_sta (by decide) mt_237 ⟨kw_1106, kw_1107, pd_237⟩, List.forall_mem_cons.mpr ⟨px_k_vir (by decide) mt_166 ⟨rfl, kw_1108, kw_1109, kw_1110, ⟨_, _, rfl⟩, pd_166⟩, List.forall_mem_cons.mpr ⟨px_k_vir (by decide) mt_133 ⟨rfl, kw_1111, kw_1112, kw_1113, ⟨_, _, rfl⟩, pd_133⟩, List.forall_mem_cons.mpr ⟨px_k_vir (by decide) mt_81 ⟨rfl, kw_1114, kw_1115, kw_1116, ⟨_, _, rfl⟩, pd_81⟩, List.forall_mem_cons.mpr ⟨px_k_vir (by decide) mt_169 ⟨rfl, kw_1117, kw_1118, kw_1119, ⟨_, _, rfl⟩, pd_169⟩, List.forall_mem_cons.mpr ⟨px_k_sta (by decide) mt_238 ⟨kw_1120, kw_1121, pd_238⟩, List.forall_mem_cons.mpr ⟨px_k_vir (by decide) mt_189 ⟨rfl, kw_1122, kw_1123, kw_1124, ⟨_, _, rfl⟩, pd_189⟩, List.forall_mem_cons.mpr ⟨px_k_vir (by decide) mt_133 ⟨rfl, kw_1111, kw_1112, kw_1113, ⟨_, _, rfl⟩, pd_133⟩, List.forall_mem_cons.mpr ⟨px_k_sta (by decide) mt_239 ⟨kw_1125, kw_1126, pd_239⟩, List.forall_mem_cons.mpr ⟨px_k_vir (by decide) mt_190 ⟨rfl, kw_1127, kw_1128, kw_1129, ⟨_, _, rfl⟩, pd_190⟩, List.forall_mem_cons.mpr ⟨px_k_vir (by decide) mt_133 ⟨rfl, kw_1111, kw_1112, kw_1113, ⟨_, _, rfl⟩, pd_133⟩, List.forall_mem_cons.mpr ⟨px_k_sta (by decide) mt_240 ⟨kw_1130, kw_1131, pd_240⟩, List.forall_mem_cons.mpr ⟨px_k_vir (by decide) mt_192 ⟨rfl, kw_1132, kw_1133, kw_1134, ⟨_, _, rfl⟩, pd_192⟩, List.forall_mem_cons.mpr ⟨px_k_vir (by decide) mt_133 ⟨rfl, kw_1111, kw_1112, kw_1113, ⟨_, _, rfl⟩, pd_133⟩, List.forall_mem_cons.mpr ⟨px_k_sta (by decide) mt_241 ⟨kw_1135, kw_1136, pd_241⟩, List.forall_mem_cons.mpr ⟨px_k_vir (by decide) mt_193 ⟨rfl, kw_1137, kw_1138, kw_1139, ⟨_, _, rfl⟩, pd_193⟩, List.forall_mem_cons.mpr ⟨px_k_vir (by decide) mt_133 ⟨rfl, kw_1111, kw_1112, kw_1113, ⟨_, _, rfl⟩, pd_133⟩, List.forall_mem_cons.mpr ⟨px_k_vir (by decide) mt_86 ⟨rfl, kw_1140, kw_1141, kw_1142, ⟨_, _, rfl⟩, pd_86⟩, List.forall_mem_cons.mpr ⟨px_k_vir (by decide) mt_196 ⟨rfl, kw_1143, kw_1144, kw_1145, ⟨_, _, rfl⟩, pd_196⟩, List.forall_mem_cons.mpr ⟨px_k_sta (by decide) mt_242 ⟨kw_1146, kw_1147, pd_242⟩, List.forall_mem_cons.mpr ⟨px_k_vir (by decide) mt_197 ⟨rfl, kw_1148, kw_1149, kw_1150, ⟨_, _, rfl⟩, pd_197⟩, List.forall_mem_cons.mpr ⟨px_k_vir (by decide) mt_133 ⟨rfl, kw_1111, kw_1112, kw_1113, ⟨_, _, rfl⟩, pd_133⟩, List.forall_mem_cons.mpr ⟨px_k_sta (by decide) mt_243 ⟨kw_1151, kw_1152, pd_243⟩, List.forall_mem_cons.mpr ⟨px_k_vir (by decide) mt_198 ⟨rfl, kw_1153, kw_1154, kw_1155, ⟨_, _, rfl⟩, pd_198⟩, List.forall_mem_cons.mpr ⟨px_k_vir (by decide) mt_133 ⟨rfl, kw_1111, kw_1112, kw_1113, ⟨_, _, rfl⟩, pd_133⟩, List.forall_mem_cons.mpr ⟨px_k_sta (by decide) mt_244 ⟨kw_1156, kw_1157, pd_244⟩, List.forall_mem_cons.mpr ⟨px_k_vir (by decide) mt_199 ⟨rfl, kw_1158, kw_1159, kw_1160, ⟨_, _, rfl⟩, pd_199⟩, List.forall_mem_cons.mpr ⟨px_k_vir (by decide) mt_133 ⟨rfl, kw_1111, kw_1112, kw_1113, ⟨_, _, rfl⟩, pd_133⟩, List.forall_mem_cons.mpr ⟨px_k_sta (by decide) mt_245 ⟨kw_1161, kw_1162, pd_245⟩, List.forall_mem_cons.mpr ⟨px_k_vir (by decide) mt_200 ⟨rfl, kw_1163, kw_1164, kw_1165, ⟨_, _, rfl⟩, pd_200⟩, List.forall_mem_cons.mpr ⟨px_k_vir (by decide) mt_133 ⟨rfl, kw_1111, kw_1112, kw_1113, ⟨_, _, rfl⟩, pd_133⟩, List.forall_mem_cons.mpr ⟨px_k_vir (by decide) mt_91 ⟨rfl, kw_1166, kw_1167, kw_1168, ⟨_, _, rfl⟩, pd_91⟩, List.forall_mem_cons.mpr ⟨px_k_vir (by decide) mt_201 ⟨rfl, kw_1169, kw_1170, kw_1171, ⟨_, _, rfl⟩, pd_201⟩, List.forall_mem_cons.mpr ⟨px_k_sta (by decide) mt_246 ⟨kw_1172, kw_1173, pd_246⟩, List.forall_mem_cons.mpr ⟨px_k_vir (by decide) mt_202 ⟨rfl, kw_1174, kw_1175, kw_1176, ⟨_, _, rfl⟩, pd_202⟩, List.forall_mem_cons.mpr ⟨px_k_vir (by decide) mt_133 ⟨rfl, kw_1111, kw_1112, kw_1113, ⟨_, _, rfl⟩, pd_133⟩, List.forall_mem_cons.mpr ⟨px_k_sta (by decide) mt_247 ⟨kw_1177, kw_1178, pd_247⟩, List.forall_mem_cons.mpr ⟨px_k_vir (by decide) mt_203 ⟨rfl, kw_1179, kw_1180, kw_1181, ⟨_, _, rfl⟩, pd_203⟩, List.forall_mem_cons.mpr ⟨px_k_vir (by decide) mt_133 ⟨rfl, kw_1111, kw_1112, kw_1113, ⟨_, _, rfl⟩, pd_133⟩, List.forall_mem_cons.mpr ⟨px_k_sta (by decide) mt_248 ⟨kw_1182, kw_1183, pd_248⟩, List.forall_mem_cons.mpr ⟨px_k_vir (by decide) mt_205 ⟨rfl, kw_1184, kw_1185, kw_1186, ⟨_, _, rfl⟩, pd_205⟩, List.forall_mem_cons.mpr ⟨px_k_vir (by decide) mt_133 ⟨rfl, kw_1111, kw_1112, kw_1113, ⟨_, _, rfl⟩, pd_133⟩, List.forall_mem_cons.mpr ⟨px_k_sta (by decide) mt_249 ⟨kw_1187, kw_1188, pd_249⟩, List.forall_mem_cons.mpr ⟨px_k_vir (by decide) mt_206 ⟨rfl, kw_1189, kw_1190, kw_1191, ⟨_, _, rfl⟩, pd_206⟩, List.forall_mem_cons.mpr ⟨px_k_vir (by decide) mt_133 ⟨rfl, kw_1111, kw_1112, kw_1113, ⟨_, _, rfl⟩, pd_133⟩, List.forall_mem_cons.mpr ⟨px_k_vir (by decide) mt_96 ⟨rfl, kw_1192, kw_1193, kw_1194, ⟨_, _, rfl⟩, pd_96⟩, List.forall_mem_cons.mpr ⟨px_k_vir (by decide) mt_207 ⟨rfl, kw_1195, kw_1196, kw_1197, ⟨_, _, rfl⟩, pd_207⟩, List.forall_mem_cons.mpr ⟨px_k_sta (by decide) mt_250 ⟨kw_1198, kw_1199, pd_250⟩, List.forall_mem_cons.mpr ⟨px_k_vir (by decide) mt_208 ⟨rfl, kw_1200, kw_1201, kw_1202, ⟨_, _, rfl⟩, pd_208⟩, List.forall_mem_cons.mpr ⟨px_k_vir (by decide) mt_133 ⟨rfl, kw_1111, kw_1112, kw_1113, ⟨_, _, rfl⟩, pd_133⟩, List.forall_mem_cons.mpr ⟨px_k_sta (by decide) mt_251 ⟨kw_1203, kw_1204, pd_251⟩, List.forall_mem_cons.mpr ⟨px_k_vir (by decide) mt_209 ⟨rfl, kw_1205, kw_1206, kw_1207, ⟨_, _, rfl⟩, pd_209⟩, List.forall_mem_cons.mpr ⟨px_k_vir (by decide) mt_133 ⟨rfl, kw_1111, kw_1112, kw_1113, ⟨_, _, rfl⟩, pd_133⟩, List.forall_mem_cons.mpr ⟨px_k_sta (by decide) mt_252 ⟨kw_1208, kw_1209, pd_252⟩, List.forall_mem_cons.mpr ⟨px_k_vir (by decide) mt_211 ⟨rfl, kw_1210, kw_1211, kw_1212, ⟨_, _, rfl⟩, pd_211⟩, List.forall_mem_cons.mpr ⟨px_k_vir (by decide) mt_133 ⟨rfl, kw_1111, kw_1112, kw_1113, ⟨_, _, rfl⟩, pd_133⟩, List.forall_mem_cons.mpr ⟨px_k_sta (by decide) mt_253 ⟨kw_1213, kw_1214, pd_253⟩, List.forall_mem_cons.mpr ⟨px_k_vir (by decide) mt_213 ⟨rfl, kw_1215, kw_1216, kw_1217, ⟨_, _, rfl⟩, pd_213⟩, List.forall_mem_cons.mpr ⟨px_k_vir (by decide) mt_133 ⟨rfl, kw_1111, kw_1112, kw_1113, ⟨_, _, rfl⟩, pd_133⟩, List.forall_mem_cons.mpr ⟨px_k_sta (by decide) mt_254 ⟨kw_1218, kw_1219, pd_254⟩, List.forall_mem_cons.mpr ⟨px_k_vir (by decide) mt_215 ⟨rfl, kw_1220, kw_1221, kw_1222, ⟨_, _, rfl⟩, pd_215⟩, List.forall_mem_cons.mpr ⟨px_k_vir (by decide) mt_133 ⟨rfl, kw_1111, kw_1112, kw_1113, ⟨_, _, rfl⟩, pd_133⟩, List.forall_mem_cons.mpr ⟨px_k_sta (by decide) mt_255 ⟨kw_1223, kw_1224, pd_255⟩, List.forall_mem_cons.mpr ⟨px_k_vir (by decide) mt_216 ⟨rfl, kw_1225, kw_1226, kw_1227, ⟨_, _, rfl⟩, pd_216⟩, List.forall_mem_cons.mpr ⟨px_k_vir (by decide) mt_133 ⟨rfl, kw_1111, kw_1112, kw_1113, ⟨_, _, rfl⟩, pd_133⟩, List.forall_mem_cons.mpr ⟨px_k_sta (by decide) mt_256 ⟨kw_1228, kw_1229, pd_256⟩, List.forall_mem_cons.mpr ⟨px_k_vir (by decide) mt_217 ⟨rfl, kw_1230, kw_1231, kw_1232, ⟨_, _, rfl⟩, pd_217⟩, List.forall_mem_cons.mpr ⟨px_k_vir (by decide) mt_133 ⟨rfl, kw_1111, kw_1112, kw_1113, ⟨_, _, rfl⟩, pd_133⟩, List.forall_mem_cons.mpr ⟨px_k_vir (by decide) mt_104 ⟨rfl, kw_1233, kw_1234, kw_1235, ⟨_, _, rfl⟩, pd_104⟩, List.forall_mem_cons.mpr ⟨px_k_vir (by decide) mt_218 ⟨rfl, kw_1236, kw_1237, kw_1238, ⟨_, _, rfl⟩, pd_218⟩, List.forall_mem_cons.mpr ⟨px_k_sta (by decide) mt_257 ⟨kw_1239, kw_1240, pd_257⟩, List.forall_mem_cons.mpr ⟨px_k_vir (by decide) mt_221 ⟨rfl, kw_1241, kw_1242, kw_1243, ⟨_, _, rfl⟩, pd_221⟩, List.forall_mem_cons.mpr ⟨px_k_vir (by decide) mt_133 ⟨rfl, kw_1111, kw_1112, kw_1113, ⟨_, _, rfl⟩, pd_133⟩, List.forall_mem_cons.mpr ⟨px_k_sta (by decide) mt_258 ⟨kw_1244, kw_1245, pd_258⟩, List.forall_mem_cons.mpr ⟨px_k_vir (by decide) mt_225 ⟨rfl, kw_1246, kw_1247, kw_1248, ⟨_, _, rfl⟩, pd_225⟩, List.forall_mem_cons.mpr ⟨px_k_vir (by decide) mt_133 ⟨rfl, kw_1111, kw_1112, kw_1113, ⟨_, _, rfl⟩, pd_133⟩, List.forall_mem_cons.mpr ⟨px_k_vir (by decide) mt_107 ⟨rfl, kw_1249, kw_1250, kw_1251, ⟨_, _, rfl⟩, pd_107⟩, List.forall_mem_cons.mpr ⟨px_k_vir (by decide) mt_226 ⟨rfl, kw_1252, kw_1253, kw_1254, ⟨_, _, rfl⟩, pd_226⟩, List.forall_mem_cons.mpr ⟨px_k_sta (by decide) mt_259 ⟨kw_1255, kw_1256, pd_259⟩, List.forall_mem_cons.mpr ⟨px_k_vir (by decide) mt_228 ⟨rfl, kw_1257, kw_1258, kw_1259, ⟨_, _, rfl⟩, pd_228⟩, List.forall_mem_cons.mpr ⟨px_k_vir (by decide) mt_133 ⟨rfl, kw_1111, kw_1112, kw_1113, ⟨_, _, rfl⟩, pd_133⟩, List.forall_mem_cons.mpr ⟨px_k_sta (by decide) mt_260 ⟨kw_1260, kw_1261, pd_260⟩, List.forall_mem_cons.mpr ⟨px_k_vir (by decide) mt_231 ⟨rfl, kw_1262, kw_1263, kw_1264, ⟨_, _, rfl⟩, pd_231⟩, List.forall_mem_cons.mpr ⟨px_k_vir (by decide) mt_133 ⟨rfl, kw_1111, kw_1112, kw_1113, ⟨_, _, rfl⟩, pd_133⟩, List.forall_mem_cons.mpr ⟨px_k_vir (by decide) mt_110 ⟨rfl, kw_1265, kw_1266, kw_1267, ⟨_, _, rfl⟩, pd_110⟩, List.forall_mem_cons.mpr ⟨px_k_vir (by decide) mt_233 ⟨rfl, kw_1268, kw_1269, kw_1270, ⟨_, _, rfl⟩, pd_233⟩, List.forall_mem_cons.mpr ⟨px_k_vir (by decide) mt_111 ⟨rfl, kw_1271, kw_1272, kw_1273, ⟨_, _, rfl⟩, pd_111⟩, List.forall_mem_cons.mpr ⟨px_k_vir (by decide) mt_234 ⟨rfl, kw_1274, kw_1275, kw_1276, ⟨_, _, rfl⟩, pd_234⟩, fun _ h => nomatch h⟩⟩⟩⟩⟩⟩⟩⟩⟩⟩⟩⟩⟩⟩⟩⟩⟩⟩⟩⟩⟩⟩⟩⟩⟩⟩⟩⟩⟩⟩⟩⟩⟩⟩⟩⟩⟩⟩⟩⟩⟩⟩⟩⟩⟩⟩⟩⟩⟩⟩⟩⟩⟩⟩⟩⟩⟩⟩⟩⟩⟩⟩⟩⟩⟩⟩⟩⟩⟩⟩⟩⟩⟩⟩⟩⟩⟩⟩⟩⟩⟩⟩⟩⟩⟩⟩⟩⟩⟩⟩⟩⟩⟩⟩⟩
set_option maxRecDepth 20000 in
theorem okb_L_law : px_okB kt_mt kt_T vwCl kt_X M_L_law := px_mkb (M := M_L_law) rfl trivial de_L_law (by decide +kernel) lk_L_law
