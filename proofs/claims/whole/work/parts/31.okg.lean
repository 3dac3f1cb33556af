/-! ===== printed by wip/whole/gen.py: the methods of the tables are right ===== -/
set_option maxRecDepth 20000 in
theorem de_L_stove : px_dec cL_stove (ls_L_stove ++ ll_L_stove) := by unfold px_dec; decide +kernel
set_option maxRecDepth 20000 in
set_option maxHeartbeats 4000000 in
theorem lk_L_stove : ∀ q ∈ ll_L_stove, px_okR kt_mt kt_T vwCl kt_X yL_stove cL_stove q.1 q.2 := List.forall_mem_cons.mpr ⟨px_k_vir (by decide) mt_84 ⟨rfl, kw_1010, kw_1011, kw_1012, ⟨_, _, rfl⟩, pd_84⟩, fun _ h => nomatch h⟩
set_option maxRecDepth 20000 in
theorem ok_L_stove : px_okMt kt_mt kt_T vwCl kt_X M_L_stove := px_mk (M := M_L_stove) rfl (by decide) ⟨by decide, by decide⟩ (by decide) kw_998 kw_1013 ⟨by decide, by decide, kw_1005, trivial⟩ de_L_stove (by decide +kernel) lk_L_stove
set_option maxRecDepth 20000 in
theorem de_L_dish : px_dec cL_dish (ls_L_dish ++ ll_L_dish) := by unfold px_dec; decide +kernel
set_option maxRecDepth 20000 in
set_option maxHeartbeats 4000000 in
theorem lk_L_dish : ∀ q ∈ ll_L_dish, px_okR kt_mt kt_T vwCl kt_X yL_dish cL_dish q.1 q.2 := List.forall_mem_cons.mpr ⟨px_k_vir (by decide) mt_85 ⟨rfl, kw_1014, kw_1015, kw_1016, ⟨_, _, rfl⟩, pd_85⟩, fun _ h => nomatch h⟩
set_option maxRecDepth 20000 in
theorem ok_L_dish : px_okMt kt_mt kt_T vwCl kt_X M_L_dish := px_mk (M := M_L_dish) rfl (by decide) ⟨by decide, by decide⟩ (by decide) kw_998 kw_1017 ⟨by decide, by decide, kw_1005, trivial⟩ de_L_dish (by decide +kernel) lk_L_dish
set_option maxRecDepth 20000 in
theorem de_L_put : px_dec cL_put (ls_L_put ++ ll_L_put) := by unfold px_dec; decide +kernel
set_option maxRecDepth 20000 in
set_option maxHeartbeats 4000000 in
theorem lk_L_put : ∀ q ∈ ll_L_put, px_okR kt_mt kt_T vwCl kt_X yL_put cL_put q.1 q.2 := List.forall_mem_cons.mpr ⟨px_k_vir (by decide) mt_87 ⟨rfl, kw_1018, kw_1019, kw_1020, ⟨_, _, rfl⟩, pd_87⟩, fun _ h => nomatch h⟩
set_option maxRecDepth 20000 in
theorem ok_L_put : px_okMt kt_mt kt_T vwCl kt_X M_L_put := px_mk (M := M_L_put) rfl (by decide) ⟨by decide, by decide⟩ (by decide) kw_998 kw_1021 ⟨by decide, by decide, kw_1005, trivial⟩ de_L_put (by decide +kernel) lk_L_put
set_option maxRecDepth 20000 in
theorem de_L_lift : px_dec cL_lift (ls_L_lift ++ ll_L_lift) := by unfold px_dec; decide +kernel
set_option maxRecDepth 20000 in
set_option maxHeartbeats 4000000 in
theorem lk_L_lift : ∀ q ∈ ll_L_lift, px_okR kt_mt kt_T vwCl kt_X yL_lift cL_lift q.1 q.2 := List.forall_mem_cons.mpr ⟨px_k_vir (by decide) mt_88 ⟨rfl, kw_1022, kw_1023, kw_1024, ⟨_, _, rfl⟩, pd_88⟩, fun _ h => nomatch h⟩
set_option maxRecDepth 20000 in
theorem ok_L_lift : px_okMt kt_mt kt_T vwCl kt_X M_L_lift := px_mk (M := M_L_lift) rfl (by decide) ⟨by decide, by decide⟩ (by decide) kw_998 kw_1025 ⟨by decide, by decide, kw_1005, trivial⟩ de_L_lift (by decide +kernel) lk_L_lift
set_option maxRecDepth 20000 in
theorem de_L_pour : px_dec cL_pour (ls_L_pour ++ ll_L_pour) := by unfold px_dec; decide +kernel
set_option maxRecDepth 20000 in
set_option maxHeartbeats 4000000 in
theorem lk_L_pour : ∀ q ∈ ll_L_pour, px_okR kt_mt kt_T vwCl kt_X yL_pour cL_pour q.1 q.2 := List.forall_mem_cons.mpr ⟨px_k_vir (by decide) mt_89 ⟨rfl, kw_1026, kw_1027, kw_1028, ⟨_, _, rfl⟩, pd_89⟩, fun _ h => nomatch h⟩
set_option maxRecDepth 20000 in
theorem ok_L_pour : px_okMt kt_mt kt_T vwCl kt_X M_L_pour := px_mk (M := M_L_pour) rfl (by decide) ⟨by decide, by decide⟩ (by decide) kw_998 kw_1029 ⟨by decide, by decide, kw_1005, trivial⟩ de_L_pour (by decide +kernel) lk_L_pour
set_option maxRecDepth 20000 in
theorem de_L_scrape : px_dec cL_scrape (ls_L_scrape ++ ll_L_scrape) := by unfold px_dec; decide +kernel
set_option maxRecDepth 20000 in
set_option maxHeartbeats 4000000 in
theorem lk_L_scrape : ∀ q ∈ ll_L_scrape, px_okR kt_mt kt_T vwCl kt_X yL_scrape cL_scrape q.1 q.2 := List.forall_mem_cons.mpr ⟨px_k_vir (by decide) mt_90 ⟨rfl, kw_1030, kw_1031, kw_1032, ⟨_, _, rfl⟩, pd_90⟩, fun _ h => nomatch h⟩
set_option maxRecDepth 20000 in
theorem ok_L_scrape : px_okMt kt_mt kt_T vwCl kt_X M_L_scrape := px_mk (M := M_L_scrape) rfl (by decide) ⟨by decide, by decide⟩ (by decide) kw_998 kw_1033 ⟨by decide, by decide, kw_1005, trivial⟩ de_L_scrape (by decide +kernel) lk_L_scrape
set_option maxRecDepth 20000 in
theorem de_L_then : px_dec cL_then (ls_L_then ++ ll_L_then) := by unfold px_dec; decide +kernel
set_option maxRecDepth 20000 in
set_option maxHeartbeats 4000000 in
theorem lk_L_then : ∀ q ∈ ll_L_then, px_okR kt_mt kt_T vwCl kt_X yL_then cL_then q.1 q.2 := List.forall_mem_cons.mpr ⟨px_k_vir (by decide) mt_92 ⟨rfl, kw_1034, kw_1035, kw_1036, ⟨_, _, rfl⟩, pd_92⟩, fun _ h => nomatch h⟩
set_option maxRecDepth 20000 in
theorem ok_L_then : px_okMt kt_mt kt_T vwCl kt_X M_L_then := px_mk (M := M_L_then) rfl (by decide) ⟨by decide, by decide⟩ (by decide) kw_998 kw_1037 ⟨by decide, by decide, kw_1005, ⟨by decide, by decide, kw_1000, trivial⟩⟩ de_L_then (by decide +kernel) lk_L_then
set_option maxRecDepth 20000 in
theorem de_L_sung : px_dec cL_sung (ls_L_sung ++ ll_L_sung) := by unfold px_dec; decide +kernel
set_option maxRecDepth 20000 in
set_option maxHeartbeats 4000000 in
theorem lk_L_sung : ∀ q ∈ ll_L_sung, px_okR kt_mt kt_T vwCl kt_X yL_sung cL_sung q.1 q.2 := List.forall_mem_cons.mpr ⟨px_k_vir (by decide) mt_93 ⟨rfl, kw_1038, kw_1039, kw_1040, ⟨_, _, rfl⟩, pd_93⟩, fun _ h => nomatch h⟩
set_option maxRecDepth 20000 in
theorem ok_L_sung : px_okMt kt_mt kt_T vwCl kt_X M_L_sung := px_mk (M := M_L_sung) rfl (by decide) ⟨by decide, by decide⟩ (by decide) kw_998 kw_1041 ⟨by decide, by decide, kw_1005, trivial⟩ de_L_sung (by decide +kernel) lk_L_sung
set_option maxRecDepth 20000 in
theorem de_L_done : px_dec cL_done (ls_L_done ++ ll_L_done) := by unfold px_dec; decide +kernel
set_option maxRecDepth 20000 in
set_option maxHeartbeats 4000000 in
theorem lk_L_done : ∀ q ∈ ll_L_done, px_okR kt_mt kt_T vwCl kt_X yL_done cL_done q.1 q.2 := List.forall_mem_cons.mpr ⟨px_k_vir (by decide) mt_94 ⟨rfl, kw_1042, kw_1043, kw_1044, ⟨_, _, rfl⟩, pd_94⟩, fun _ h => nomatch h⟩
set_option maxRecDepth 20000 in
theorem ok_L_done : px_okMt kt_mt kt_T vwCl kt_X M_L_done := px_mk (M := M_L_done) rfl (by decide) ⟨by decide, by decide⟩ (by decide) kw_998 kw_1045 ⟨by decide, by decide, kw_1005, trivial⟩ de_L_done (by decide +kernel) lk_L_done
set_option maxRecDepth 20000 in
theorem de_L_fugue : px_dec cL_fugue (ls_L_fugue ++ ll_L_fugue) := by unfold px_dec; decide +kernel
set_option maxRecDepth 20000 in
set_option maxHeartbeats 4000000 in
theorem lk_L_fugue : ∀ q ∈ ll_L_fugue, px_okR kt_mt kt_T vwCl kt_X yL_fugue cL_fugue q.1 q.2 := List.forall_mem_cons.mpr ⟨px_k_vir (by decide) mt_95 ⟨rfl, kw_1046, kw_1047, kw_1048, ⟨_, _, rfl⟩, pd_95⟩, fun _ h => nomatch h⟩
set_option maxRecDepth 20000 in
theorem ok_L_fugue : px_okMt kt_mt kt_T vwCl kt_X M_L_fugue := px_mk (M := M_L_fugue) rfl (by decide) ⟨by decide, by decide⟩ (by decide) kw_998 kw_1049 ⟨by decide, by decide, kw_1000, trivial⟩ de_L_fugue (by decide +kernel) lk_L_fugue
set_option maxRecDepth 20000 in
theorem de_L_loudest : px_dec cL_loudest (ls_L_loudest ++ ll_L_loudest) := by unfold px_dec; decide +kernel
set_option maxRecDepth 20000 in
set_option maxHeartbeats 4000000 in
theorem lk_L_loudest : ∀ q ∈ ll_L_loudest, px_okR kt_mt kt_T vwCl kt_X yL_loudest cL_loudest q.1 q.2 := List.forall_mem_cons.mpr ⟨px_k_vir (by decide) mt_97 ⟨rfl, kw_1050, kw_1051, kw_1052, ⟨_, _, rfl⟩, pd_97⟩, fun _ h => nomatch h⟩
set_option maxRecDepth 20000 in
theorem ok_L_loudest : px_okMt kt_mt kt_T vwCl kt_X M_L_loudest := px_mk (M := M_L_loudest) rfl (by decide) ⟨by decide, by decide⟩ (by decide) kw_998 kw_1053 ⟨by decide, by decide, kw_1005, trivial⟩ de_L_loudest (by decide +kernel) lk_L_loudest
set_option maxRecDepth 20000 in
theorem de_L_dry : px_dec cL_dry (ls_L_dry ++ ll_L_dry) := by unfold px_dec; decide +kernel
set_option maxRecDepth 20000 in
set_option maxHeartbeats 4000000 in
theorem lk_L_dry : ∀ q ∈ ll_L_dry, px_okR kt_mt kt_T vwCl kt_X yL_dry cL_dry q.1 q.2 := List.forall_mem_cons.mpr ⟨px_k_vir (by decide) mt_98 ⟨rfl, kw_1054, kw_1055, kw_1056, ⟨_, _, rfl⟩, pd_98⟩, fun _ h => nomatch h⟩
set_option maxRecDepth 20000 in
theorem ok_L_dry : px_okMt kt_mt kt_T vwCl kt_X M_L_dry := px_mk (M := M_L_dry) rfl (by decide) ⟨by decide, by decide⟩ (by decide) kw_998 kw_1057 ⟨by decide, by decide, kw_1005, trivial⟩ de_L_dry (by decide +kernel) lk_L_dry
set_option maxRecDepth 20000 in
theorem de_L_soonest : px_dec cL_soonest (ls_L_soonest ++ ll_L_soonest) := by unfold px_dec; decide +kernel
set_option maxRecDepth 20000 in
set_option maxHeartbeats 4000000 in
theorem lk_L_soonest : ∀ q ∈ ll_L_soonest, px_okR kt_mt kt_T vwCl kt_X yL_soonest cL_soonest q.1 q.2 := List.forall_mem_cons.mpr ⟨px_k_vir (by decide) mt_99 ⟨rfl, kw_1058, kw_1059, kw_1060, ⟨_, _, rfl⟩, pd_99⟩, fun _ h => nomatch h⟩
set_option maxRecDepth 20000 in
theorem ok_L_soonest : px_okMt kt_mt kt_T vwCl kt_X M_L_soonest := px_mk (M := M_L_soonest) rfl (by decide) ⟨by decide, by decide⟩ (by decide) kw_998 kw_1061 ⟨by decide, by decide, kw_1005, trivial⟩ de_L_soonest (by decide +kernel) lk_L_soonest
set_option maxRecDepth 20000 in
theorem de_L_tuned : px_dec cL_tuned (ls_L_tuned ++ ll_L_tuned) := by unfold px_dec; decide +kernel
set_option maxRecDepth 20000 in
set_option maxHeartbeats 4000000 in
theorem lk_L_tuned : ∀ q ∈ ll_L_tuned, px_okR kt_mt kt_T vwCl kt_X yL_tuned cL_tuned q.1 q.2 := List.forall_mem_cons.mpr ⟨px_k_vir (by decide) mt_100 ⟨rfl, kw_1062, kw_1063, kw_1064, ⟨_, _, rfl⟩, pd_100⟩, fun _ h => nomatch h⟩
set_option maxRecDepth 20000 in
theorem ok_L_tuned : px_okMt kt_mt kt_T vwCl kt_X M_L_tuned := px_mk (M := M_L_tuned) rfl (by decide) ⟨by decide, by decide⟩ (by decide) kw_998 kw_1065 ⟨by decide, by decide, kw_1005, ⟨by decide, by decide, kw_1000, trivial⟩⟩ de_L_tuned (by decide +kernel) lk_L_tuned
set_option maxRecDepth 20000 in
theorem de_L_chord : px_dec cL_chord (ls_L_chord ++ ll_L_chord) := by unfold px_dec; decide +kernel
set_option maxRecDepth 20000 in
set_option maxHeartbeats 4000000 in
theorem lk_L_chord : ∀ q ∈ ll_L_chord, px_okR kt_mt kt_T vwCl kt_X yL_chord cL_chord q.1 q.2 := List.forall_mem_cons.mpr ⟨px_k_vir (by decide) mt_101 ⟨rfl, kw_1066, kw_1067, kw_1068, ⟨_, _, rfl⟩, pd_101⟩, fun _ h => nomatch h⟩
set_option maxRecDepth 20000 in
theorem ok_L_chord : px_okMt kt_mt kt_T vwCl kt_X M_L_chord := px_mk (M := M_L_chord) rfl (by decide) ⟨by decide, by decide⟩ (by decide) kw_998 kw_1069 ⟨by decide, by decide, kw_1005, trivial⟩ de_L_chord (by decide +kernel) lk_L_chord
set_option maxRecDepth 20000 in
theorem de_L_burner : px_dec cL_burner (ls_L_burner ++ ll_L_burner) := by unfold px_dec; decide +kernel
set_option maxRecDepth 20000 in
set_option maxHeartbeats 4000000 in
theorem lk_L_burner : ∀ q ∈ ll_L_burner, px_okR kt_mt kt_T vwCl kt_X yL_burner cL_burner q.1 q.2 := List.forall_mem_cons.mpr ⟨px_k_vir (by decide) mt_102 ⟨rfl, kw_1070, kw_1071, kw_1072, ⟨_, _, rfl⟩, pd_102⟩, fun _ h => nomatch h⟩
set_option maxRecDepth 20000 in
theorem ok_L_burner : px_okMt kt_mt kt_T vwCl kt_X M_L_burner := px_mk (M := M_L_burner) rfl (by decide) ⟨by decide, by decide⟩ (by decide) kw_998 kw_1073 ⟨by decide, by decide, kw_1005, ⟨by decide, by decide, kw_1000, trivial⟩⟩ de_L_burner (by decide +kernel) lk_L_burner
set_option maxRecDepth 20000 in
theorem de_L_together : px_dec cL_together (ls_L_together ++ ll_L_together) := by unfold px_dec; decide +kernel
set_option maxRecDepth 20000 in
set_option maxHeartbeats 4000000 in
theorem lk_L_together : ∀ q ∈ ll_L_together, px_okR kt_mt kt_T vwCl kt_X yL_together cL_together q.1 q.2 := List.forall_mem_cons.mpr ⟨px_k_vir (by decide) mt_103 ⟨rfl, kw_1074, kw_1075, kw_1076, ⟨_, _, rfl⟩, pd_103⟩, fun _ h => nomatch h⟩
set_option maxRecDepth 20000 in
theorem ok_L_together : px_okMt kt_mt kt_T vwCl kt_X M_L_together := px_mk (M := M_L_together) rfl (by decide) ⟨by decide, by decide⟩ (by decide) kw_998 kw_1077 ⟨by decide, by decide, kw_1005, ⟨by decide, by decide, kw_1000, trivial⟩⟩ de_L_together (by decide +kernel) lk_L_together
set_option maxRecDepth 20000 in
theorem de_L_chalk : px_dec cL_chalk (ls_L_chalk ++ ll_L_chalk) := by unfold px_dec; decide +kernel
set_option maxRecDepth 20000 in
set_option maxHeartbeats 4000000 in
theorem lk_L_chalk : ∀ q ∈ ll_L_chalk, px_okR kt_mt kt_T vwCl kt_X yL_chalk cL_chalk q.1 q.2 := List.forall_mem_cons.mpr ⟨px_k_vir (by decide) mt_105 ⟨rfl, kw_1078, kw_1079, kw_1080, ⟨_, _, rfl⟩, pd_105⟩, fun _ h => nomatch h⟩
set_option maxRecDepth 20000 in
theorem ok_L_chalk : px_okMt kt_mt kt_T vwCl kt_X M_L_chalk := px_mk (M := M_L_chalk) rfl (by decide) ⟨by decide, by decide⟩ (by decide) kw_998 kw_1081 ⟨by decide, by decide, kw_1005, trivial⟩ de_L_chalk (by decide +kernel) lk_L_chalk
set_option maxRecDepth 20000 in
theorem de_L_listen : px_dec cL_listen (ls_L_listen ++ ll_L_listen) := by unfold px_dec; decide +kernel
set_option maxRecDepth 20000 in
set_option maxHeartbeats 4000000 in
theorem lk_L_listen : ∀ q ∈ ll_L_listen, px_okR kt_mt kt_T vwCl kt_X yL_listen cL_listen q.1 q.2 := List.forall_mem_cons.mpr ⟨px_k_vir (by decide) mt_106 ⟨rfl, kw_1082, kw_1083, kw_1084, ⟨_, _, rfl⟩, pd_106⟩, fun _ h => nomatch h⟩
set_option maxRecDepth 20000 in
theorem ok_L_listen : px_okMt kt_mt kt_T vwCl kt_X M_L_listen := px_mk (M := M_L_listen) rfl (by decide) ⟨by decide, by decide⟩ (by decide) kw_998 kw_1085 ⟨by decide, by decide, kw_1005, trivial⟩ de_L_listen (by decide +kernel) lk_L_listen
set_option maxRecDepth 20000 in
theorem de_L_game : px_dec cL_game (ls_L_game ++ ll_L_game) := by unfold px_dec; decide +kernel
set_option maxRecDepth 20000 in
set_option maxHeartbeats 4000000 in
theorem lk_L_game : ∀ q ∈ ll_L_game, px_okR kt_mt kt_T vwCl kt_X yL_game cL_game q.1 q.2 := List.forall_mem_cons.mpr ⟨px_k_vir (by decide) mt_108 ⟨rfl, kw_1086, kw_1087, kw_1088, ⟨_, _, rfl⟩, pd_108⟩, fun _ h => nomatch h⟩
set_option maxRecDepth 20000 in
theorem ok_L_game : px_okMt kt_mt kt_T vwCl kt_X M_L_game := px_mk (M := M_L_game) rfl (by decide) ⟨by decide, by decide⟩ (by decide) kw_998 kw_1089 ⟨by decide, by decide, kw_1005, ⟨by decide, by decide, kw_1000, trivial⟩⟩ de_L_game (by decide +kernel) lk_L_game
set_option maxRecDepth 20000 in
theorem de_L_evening : px_dec cL_evening (ls_L_evening ++ ll_L_evening) := by unfold px_dec; decide +kernel
set_option maxRecDepth 20000 in
set_option maxHeartbeats 4000000 in
theorem lk_L_evening : ∀ q ∈ ll_L_evening, px_okR kt_mt kt_T vwCl kt_X yL_evening cL_evening q.1 q.2 := List.forall_mem_cons.mpr ⟨px_k_vir (by decide) mt_109 ⟨rfl, kw_1090, kw_1091, kw_1092, ⟨_, _, rfl⟩, pd_109⟩, fun _ h => nomatch h⟩
set_option maxRecDepth 20000 in
theorem ok_L_evening : px_okMt kt_mt kt_T vwCl kt_X M_L_evening := px_mk (M := M_L_evening) rfl (by decide) ⟨by decide, by decide⟩ (by decide) kw_998 kw_1093 ⟨by decide, by decide, kw_1005, ⟨by decide, by decide, kw_1000, trivial⟩⟩ de_L_evening (by decide +kernel) lk_L_evening
