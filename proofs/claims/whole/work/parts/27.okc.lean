/-! ===== printed by wip/whole/gen.py: the methods of the tables are right ===== -/
set_option maxRecDepth 20000 in
theorem de_X9_kitchen : px_dec cX9_kitchen (ls_X9_kitchen ++ ll_X9_kitchen) := by unfold px_dec; decide +kernel
set_option maxRecDepth 20000 in
set_option maxHeartbeats 4000000 in
theorem lk_X9_kitchen : ∀ q ∈ ll_X9_kitchen, px_okR kt_mt kt_T vwCl kt_X yX9_kitchen cX9_kitchen q.1 q.2 := List.forall_mem_cons.mpr ⟨px_k_get fk_X9_12, List.forall_mem_cons.mpr ⟨px_k_get fk_X9_68, List.forall_mem_cons.mpr ⟨px_k_thr (by decide) (fun _ => ⟨78, 80, 0, 7, 2, "the tape has not so many bytes", kt_thn, prog_17_method_2_code, rfl, by decide, kt_f900, kt_fn, by decide, kt_x900, kw_412, kw_413, rfl, kt_g900_X9_80, kt_b900_X9_80, kt_o900_X9_80_76, by decide +kernel, Or.inl ⟨by decide +kernel, rfl⟩, by decide +kernel, by decide +kernel⟩), List.forall_mem_cons.mpr ⟨px_k_get fk_X9_12, List.forall_mem_cons.mpr ⟨px_k_vir (by decide) mt_43 ⟨rfl, kw_414, kw_415, kw_416, ⟨_, _, rfl⟩, pd_43⟩, List.forall_mem_cons.mpr ⟨px_k_get fk_X9_30, List.forall_mem_cons.mpr ⟨px_k_get fk_X9_19, List.forall_mem_cons.mpr ⟨px_k_get fk_X9_12, List.forall_mem_cons.mpr ⟨px_k_get fk_X9_87, List.forall_mem_cons.mpr ⟨px_k_vir (by decide) mt_20 ⟨rfl, kw_418, kw_419, kw_420, ⟨_, _, rfl⟩, pd_20⟩, List.forall_mem_cons.mpr ⟨px_k_get fk_X9_19, List.forall_mem_cons.mpr ⟨px_k_get fk_X9_23, List.forall_mem_cons.mpr ⟨px_k_vir (by decide) mt_21 ⟨rfl, kw_421, kw_422, kw_423, ⟨_, _, rfl⟩, pd_21⟩, List.forall_mem_cons.mpr ⟨px_k_get fk_X9_36, List.forall_mem_cons.mpr ⟨px_k_vir (by decide) mt_1 ⟨rfl, kw_424, kw_425, kw_426, ⟨_, _, rfl⟩, pd_1⟩, List.forall_mem_cons.mpr ⟨px_k_get fk_X9_43, List.forall_mem_cons.mpr ⟨px_k_vir (by decide) mt_12 ⟨rfl, kw_427, kw_428, kw_429, ⟨_, _, rfl⟩, pd_12⟩, List.forall_mem_cons.mpr ⟨px_k_put pk_X9_102, List.forall_mem_cons.mpr ⟨px_k_vir (by decide) mt_117 ⟨rfl, kw_431, kw_432, kw_433, ⟨_, _, rfl⟩, pd_117⟩, fun _ h => nomatch h⟩⟩⟩⟩⟩⟩⟩⟩⟩⟩⟩⟩⟩⟩⟩⟩⟩⟩⟩
set_option maxRecDepth 20000 in
theorem ok_X9_kitchen : px_okMt kt_mt kt_T vwCl kt_X M_X9_kitchen := px_mk (M := M_X9_kitchen) rfl (by decide) ⟨by decide, by decide⟩ (by decide) kw_405 kw_434 trivial de_X9_kitchen (by decide +kernel) lk_X9_kitchen
set_option maxRecDepth 20000 in
theorem de_X9_fault : px_dec cX9_fault (ls_X9_fault ++ ll_X9_fault) := by unfold px_dec; decide +kernel
set_option maxRecDepth 20000 in
set_option maxHeartbeats 4000000 in
theorem lk_X9_fault : ∀ q ∈ ll_X9_fault, px_okR kt_mt kt_T vwCl kt_X yX9_fault cX9_fault q.1 q.2 := List.forall_mem_cons.mpr ⟨px_k_get fk_X9_12, List.forall_mem_cons.mpr ⟨px_k_get fk_X9_109, fun _ h => nomatch h⟩⟩
set_option maxRecDepth 20000 in
theorem ok_X9_fault : px_okMt kt_mt kt_T vwCl kt_X M_X9_fault := px_mk (M := M_X9_fault) rfl (by decide) ⟨by decide, by decide⟩ (by decide) kw_405 kw_436 trivial de_X9_fault (by decide +kernel) lk_X9_fault
set_option maxRecDepth 20000 in
theorem de_X9_count : px_dec cX9_count (ls_X9_count ++ ll_X9_count) := by unfold px_dec; decide +kernel
set_option maxRecDepth 20000 in
set_option maxHeartbeats 4000000 in
theorem lk_X9_count : ∀ q ∈ ll_X9_count, px_okR kt_mt kt_T vwCl kt_X yX9_count cX9_count q.1 q.2 := List.forall_mem_cons.mpr ⟨px_k_get fk_X9_19, List.forall_mem_cons.mpr ⟨px_k_get fk_X9_112, List.forall_mem_cons.mpr ⟨px_k_get fk_X9_19, List.forall_mem_cons.mpr ⟨px_k_get fk_X9_115, List.forall_mem_cons.mpr ⟨px_k_get fk_X9_19, List.forall_mem_cons.mpr ⟨px_k_get fk_X9_118, List.forall_mem_cons.mpr ⟨px_k_get fk_X9_23, List.forall_mem_cons.mpr ⟨px_k_vir (by decide) mt_119 ⟨rfl, kw_440, kw_441, kw_442, ⟨_, _, rfl⟩, pd_119⟩, List.forall_mem_cons.mpr ⟨px_k_get fk_X9_23, List.forall_mem_cons.mpr ⟨px_k_vir (by decide) mt_120 ⟨rfl, kw_443, kw_444, kw_445, ⟨_, _, rfl⟩, pd_120⟩, List.forall_mem_cons.mpr ⟨px_k_vir (by decide) mt_121 ⟨rfl, kw_446, kw_447, kw_448, ⟨_, _, rfl⟩, pd_121⟩, List.forall_mem_cons.mpr ⟨px_k_vir (by decide) mt_121 ⟨rfl, kw_446, kw_447, kw_448, ⟨_, _, rfl⟩, pd_121⟩, List.forall_mem_cons.mpr ⟨px_k_vir (by decide) mt_119 ⟨rfl, kw_440, kw_441, kw_442, ⟨_, _, rfl⟩, pd_119⟩, List.forall_mem_cons.mpr ⟨px_k_vir (by decide) mt_122 ⟨rfl, kw_449, kw_450, kw_451, ⟨_, _, rfl⟩, pd_122⟩, List.forall_mem_cons.mpr ⟨px_k_get fk_X9_36, List.forall_mem_cons.mpr ⟨px_k_get fk_X9_135, List.forall_mem_cons.mpr ⟨px_k_get fk_X9_43, List.forall_mem_cons.mpr ⟨px_k_get fk_X9_138, List.forall_mem_cons.mpr ⟨px_k_get fk_X9_12, List.forall_mem_cons.mpr ⟨px_k_get fk_X9_68, List.forall_mem_cons.mpr ⟨px_k_get fk_X9_30, List.forall_mem_cons.mpr ⟨px_k_get fk_X9_30, List.forall_mem_cons.mpr ⟨px_k_get fk_X9_30, List.forall_mem_cons.mpr ⟨px_k_thr (by decide) (fun _ => ⟨141, 143, 1, 13, 2, "no such count", kt_thn, prog_29_method_4_code, rfl, by decide, kt_f901, kt_fn, by decide, kt_x901, kw_454, kw_455, rfl, kt_g901_X9_143, kt_b901_X9_143, kt_o901_X9_143_139, by decide +kernel, Or.inl ⟨by decide +kernel, rfl⟩, by decide +kernel, by decide +kernel⟩), fun _ h => nomatch h⟩⟩⟩⟩⟩⟩⟩⟩⟩⟩⟩⟩⟩⟩⟩⟩⟩⟩⟩⟩⟩⟩⟩⟩
set_option maxRecDepth 20000 in
theorem ok_X9_count : px_okMt kt_mt kt_T vwCl kt_X M_X9_count := px_mk (M := M_X9_count) rfl (by decide) ⟨by decide, by decide⟩ (by decide) kw_405 kw_456 trivial de_X9_count (by decide +kernel) lk_X9_count
set_option maxRecDepth 20000 in
theorem de_X9_kettle : px_dec cX9_kettle (ls_X9_kettle ++ ll_X9_kettle) := by unfold px_dec; decide +kernel
set_option maxRecDepth 20000 in
set_option maxHeartbeats 4000000 in
theorem lk_X9_kettle : ∀ q ∈ ll_X9_kettle, px_okR kt_mt kt_T vwCl kt_X yX9_kettle cX9_kettle q.1 q.2 := List.forall_mem_cons.mpr ⟨px_k_vir (by decide) mt_112 ⟨rfl, kw_457, kw_458, kw_459, ⟨_, _, rfl⟩, pd_112⟩, List.forall_mem_cons.mpr ⟨px_k_get fk_X9_19, List.forall_mem_cons.mpr ⟨px_k_get fk_X9_147, List.forall_mem_cons.mpr ⟨px_k_get fk_X9_19, List.forall_mem_cons.mpr ⟨px_k_get fk_X9_150, List.forall_mem_cons.mpr ⟨px_k_get fk_X9_19, List.forall_mem_cons.mpr ⟨px_k_get fk_X9_153, List.forall_mem_cons.mpr ⟨px_k_get fk_X9_23, List.forall_mem_cons.mpr ⟨px_k_get fk_X9_23, List.forall_mem_cons.mpr ⟨px_k_get fk_X9_23, List.forall_mem_cons.mpr ⟨px_k_get fk_X9_23, List.forall_mem_cons.mpr ⟨px_k_get fk_X9_23, List.forall_mem_cons.mpr ⟨px_k_get fk_X9_23, List.forall_mem_cons.mpr ⟨px_k_thr (by decide) (fun _ => ⟨156, 143, 2, 13, 2, "a kettle has no such thing", kt_thn, prog_29_method_4_code, rfl, by decide, kt_f901, kt_fn, by decide, kt_x901, kw_454, kw_455, rfl, kt_g901_X9_143, kt_b901_X9_143, kt_o901_X9_143_139, by decide +kernel, Or.inl ⟨by decide +kernel, rfl⟩, by decide +kernel, by decide +kernel⟩), fun _ h => nomatch h⟩⟩⟩⟩⟩⟩⟩⟩⟩⟩⟩⟩⟩⟩
set_option maxRecDepth 20000 in
theorem ok_X9_kettle : px_okMt kt_mt kt_T vwCl kt_X M_X9_kettle := px_mk (M := M_X9_kettle) rfl (by decide) ⟨by decide, by decide⟩ (by decide) kw_405 kw_463 trivial de_X9_kettle (by decide +kernel) lk_X9_kettle
set_option maxRecDepth 20000 in
theorem de_X9_stove : px_dec cX9_stove (ls_X9_stove ++ ll_X9_stove) := by unfold px_dec; decide +kernel
set_option maxRecDepth 20000 in
set_option maxHeartbeats 4000000 in
theorem lk_X9_stove : ∀ q ∈ ll_X9_stove, px_okR kt_mt kt_T vwCl kt_X yX9_stove cX9_stove q.1 q.2 := List.forall_mem_cons.mpr ⟨px_k_vir (by decide) mt_113 ⟨rfl, kw_464, kw_465, kw_466, ⟨_, _, rfl⟩, pd_113⟩, List.forall_mem_cons.mpr ⟨px_k_get fk_X9_19, List.forall_mem_cons.mpr ⟨px_k_get fk_X9_161, List.forall_mem_cons.mpr ⟨px_k_get fk_X9_19, List.forall_mem_cons.mpr ⟨px_k_get fk_X9_23, List.forall_mem_cons.mpr ⟨px_k_vir (by decide) mt_22 ⟨rfl, kw_468, kw_469, kw_470, ⟨_, _, rfl⟩, pd_22⟩, List.forall_mem_cons.mpr ⟨px_k_thr (by decide) (fun _ => ⟨168, 143, 3, 13, 2, "a stove has no such thing", kt_thn, prog_29_method_4_code, rfl, by decide, kt_f901, kt_fn, by decide, kt_x901, kw_454, kw_455, rfl, kt_g901_X9_143, kt_b901_X9_143, kt_o901_X9_143_139, by decide +kernel, Or.inl ⟨by decide +kernel, rfl⟩, by decide +kernel, by decide +kernel⟩), fun _ h => nomatch h⟩⟩⟩⟩⟩⟩⟩
set_option maxRecDepth 20000 in
theorem ok_X9_stove : px_okMt kt_mt kt_T vwCl kt_X M_X9_stove := px_mk (M := M_X9_stove) rfl (by decide) ⟨by decide, by decide⟩ (by decide) kw_405 kw_471 trivial de_X9_stove (by decide +kernel) lk_X9_stove
set_option maxRecDepth 20000 in
theorem de_X9_dish : px_dec cX9_dish (ls_X9_dish ++ ll_X9_dish) := by unfold px_dec; decide +kernel
set_option maxRecDepth 20000 in
set_option maxHeartbeats 4000000 in
theorem lk_X9_dish : ∀ q ∈ ll_X9_dish, px_okR kt_mt kt_T vwCl kt_X yX9_dish cX9_dish q.1 q.2 := List.forall_mem_cons.mpr ⟨px_k_vir (by decide) mt_114 ⟨rfl, kw_472, kw_473, kw_474, ⟨_, _, rfl⟩, pd_114⟩, List.forall_mem_cons.mpr ⟨px_k_get fk_X9_19, List.forall_mem_cons.mpr ⟨px_k_get fk_X9_173, List.forall_mem_cons.mpr ⟨px_k_get fk_X9_23, List.forall_mem_cons.mpr ⟨px_k_get fk_X9_19, List.forall_mem_cons.mpr ⟨px_k_get fk_X9_173, List.forall_mem_cons.mpr ⟨px_k_thr (by decide) (fun _ => ⟨176, 143, 4, 13, 2, "no such step", kt_thn, prog_29_method_4_code, rfl, by decide, kt_f901, kt_fn, by decide, kt_x901, kw_454, kw_455, rfl, kt_g901_X9_143, kt_b901_X9_143, kt_o901_X9_143_139, by decide +kernel, Or.inl ⟨by decide +kernel, rfl⟩, by decide +kernel, by decide +kernel⟩), List.forall_mem_cons.mpr ⟨px_k_get fk_X9_19, List.forall_mem_cons.mpr ⟨px_k_get fk_X9_178, fun _ h => nomatch h⟩⟩⟩⟩⟩⟩⟩⟩⟩
set_option maxRecDepth 20000 in
theorem ok_X9_dish : px_okMt kt_mt kt_T vwCl kt_X M_X9_dish := px_mk (M := M_X9_dish) rfl (by decide) ⟨by decide, by decide⟩ (by decide) kw_405 kw_477 trivial de_X9_dish (by decide +kernel) lk_X9_dish
set_option maxRecDepth 20000 in
theorem de_X9_minutes : px_dec cX9_minutes (ls_X9_minutes ++ ll_X9_minutes) := by unfold px_dec; decide +kernel
set_option maxRecDepth 20000 in
set_option maxHeartbeats 4000000 in
theorem lk_X9_minutes : ∀ q ∈ ll_X9_minutes, px_okR kt_mt kt_T vwCl kt_X yX9_minutes cX9_minutes q.1 q.2 := List.forall_mem_cons.mpr ⟨px_k_get fk_X9_23, List.forall_mem_cons.mpr ⟨px_k_get fk_X9_30, List.forall_mem_cons.mpr ⟨px_k_vir (by decide) mt_116 ⟨rfl, kw_478, kw_479, kw_480, ⟨_, _, rfl⟩, pd_116⟩, List.forall_mem_cons.mpr ⟨px_k_get fk_X9_19, List.forall_mem_cons.mpr ⟨px_k_get fk_X9_23, List.forall_mem_cons.mpr ⟨px_k_vir (by decide) mt_23 ⟨rfl, kw_481, kw_43, kw_44, ⟨_, _, rfl⟩, pd_23⟩, List.forall_mem_cons.mpr ⟨px_k_get fk_X9_23, fun _ h => nomatch h⟩⟩⟩⟩⟩⟩⟩
set_option maxRecDepth 20000 in
theorem ok_X9_minutes : px_okMt kt_mt kt_T vwCl kt_X M_X9_minutes := px_mk (M := M_X9_minutes) rfl (by decide) ⟨by decide, by decide⟩ (by decide) kw_405 kw_482 trivial de_X9_minutes (by decide +kernel) lk_X9_minutes
set_option maxRecDepth 20000 in
theorem de_X9_put : px_dec cX9_put (ls_X9_put ++ ll_X9_put) := by unfold px_dec; decide +kernel
set_option maxRecDepth 20000 in
set_option maxHeartbeats 4000000 in
theorem lk_X9_put : ∀ q ∈ ll_X9_put, px_okR kt_mt kt_T vwCl kt_X yX9_put cX9_put q.1 q.2 := List.forall_mem_cons.mpr ⟨px_k_vir (by decide) mt_112 ⟨rfl, kw_457, kw_458, kw_459, ⟨_, _, rfl⟩, pd_112⟩, List.forall_mem_cons.mpr ⟨px_k_vir (by decide) mt_113 ⟨rfl, kw_464, kw_465, kw_466, ⟨_, _, rfl⟩, pd_113⟩, List.forall_mem_cons.mpr ⟨px_k_get fk_X9_19, List.forall_mem_cons.mpr ⟨px_k_get fk_X9_23, List.forall_mem_cons.mpr ⟨px_k_vir (by decide) mt_22 ⟨rfl, kw_468, kw_469, kw_470, ⟨_, _, rfl⟩, pd_22⟩, List.forall_mem_cons.mpr ⟨px_k_get fk_X9_30, List.forall_mem_cons.mpr ⟨px_k_vir (by decide) mt_116 ⟨rfl, kw_478, kw_479, kw_480, ⟨_, _, rfl⟩, pd_116⟩, List.forall_mem_cons.mpr ⟨px_k_get fk_X9_23, fun _ h => nomatch h⟩⟩⟩⟩⟩⟩⟩⟩
set_option maxRecDepth 20000 in
theorem ok_X9_put : px_okMt kt_mt kt_T vwCl kt_X M_X9_put := px_mk (M := M_X9_put) rfl (by decide) ⟨by decide, by decide⟩ (by decide) kw_405 kw_483 trivial de_X9_put (by decide +kernel) lk_X9_put
set_option maxRecDepth 20000 in
theorem de_X9_lift : px_dec cX9_lift (ls_X9_lift ++ ll_X9_lift) := by unfold px_dec; decide +kernel
set_option maxRecDepth 20000 in
set_option maxHeartbeats 4000000 in
theorem lk_X9_lift : ∀ q ∈ ll_X9_lift, px_okR kt_mt kt_T vwCl kt_X yX9_lift cX9_lift q.1 q.2 := List.forall_mem_cons.mpr ⟨px_k_vir (by decide) mt_112 ⟨rfl, kw_457, kw_458, kw_459, ⟨_, _, rfl⟩, pd_112⟩, List.forall_mem_cons.mpr ⟨px_k_get fk_X9_23, List.forall_mem_cons.mpr ⟨px_k_get fk_X9_30, List.forall_mem_cons.mpr ⟨px_k_vir (by decide) mt_116 ⟨rfl, kw_478, kw_479, kw_480, ⟨_, _, rfl⟩, pd_116⟩, List.forall_mem_cons.mpr ⟨px_k_get fk_X9_23, fun _ h => nomatch h⟩⟩⟩⟩⟩
set_option maxRecDepth 20000 in
theorem ok_X9_lift : px_okMt kt_mt kt_T vwCl kt_X M_X9_lift := px_mk (M := M_X9_lift) rfl (by decide) ⟨by decide, by decide⟩ (by decide) kw_405 kw_484 trivial de_X9_lift (by decide +kernel) lk_X9_lift
set_option maxRecDepth 20000 in
theorem de_X9_pour : px_dec cX9_pour (ls_X9_pour ++ ll_X9_pour) := by unfold px_dec; decide +kernel
set_option maxRecDepth 20000 in
set_option maxHeartbeats 4000000 in
theorem lk_X9_pour : ∀ q ∈ ll_X9_pour, px_okR kt_mt kt_T vwCl kt_X yX9_pour cX9_pour q.1 q.2 := List.forall_mem_cons.mpr ⟨px_k_vir (by decide) mt_112 ⟨rfl, kw_457, kw_458, kw_459, ⟨_, _, rfl⟩, pd_112⟩, List.forall_mem_cons.mpr ⟨px_k_get fk_X9_23, List.forall_mem_cons.mpr ⟨px_k_get fk_X9_19, List.forall_mem_cons.mpr ⟨px_k_get fk_X9_153, List.forall_mem_cons.mpr ⟨px_k_get fk_X9_30, List.forall_mem_cons.mpr ⟨px_k_vir (by decide) mt_116 ⟨rfl, kw_478, kw_479, kw_480, ⟨_, _, rfl⟩, pd_116⟩, List.forall_mem_cons.mpr ⟨px_k_get fk_X9_23, List.forall_mem_cons.mpr ⟨px_k_get fk_X9_23, List.forall_mem_cons.mpr ⟨px_k_get fk_X9_23, List.forall_mem_cons.mpr ⟨px_k_get fk_X9_23, fun _ h => nomatch h⟩⟩⟩⟩⟩⟩⟩⟩⟩⟩
set_option maxRecDepth 20000 in
theorem ok_X9_pour : px_okMt kt_mt kt_T vwCl kt_X M_X9_pour := px_mk (M := M_X9_pour) rfl (by decide) ⟨by decide, by decide⟩ (by decide) kw_405 kw_485 trivial de_X9_pour (by decide +kernel) lk_X9_pour
set_option maxRecDepth 20000 in
theorem de_X9_scrape : px_dec cX9_scrape (ls_X9_scrape ++ ll_X9_scrape) := by unfold px_dec; decide +kernel
set_option maxRecDepth 20000 in
set_option maxHeartbeats 4000000 in
theorem lk_X9_scrape : ∀ q ∈ ll_X9_scrape, px_okR kt_mt kt_T vwCl kt_X yX9_scrape cX9_scrape q.1 q.2 := List.forall_mem_cons.mpr ⟨px_k_vir (by decide) mt_112 ⟨rfl, kw_457, kw_458, kw_459, ⟨_, _, rfl⟩, pd_112⟩, List.forall_mem_cons.mpr ⟨px_k_get fk_X9_23, List.forall_mem_cons.mpr ⟨px_k_get fk_X9_23, List.forall_mem_cons.mpr ⟨px_k_get fk_X9_30, List.forall_mem_cons.mpr ⟨px_k_vir (by decide) mt_116 ⟨rfl, kw_478, kw_479, kw_480, ⟨_, _, rfl⟩, pd_116⟩, List.forall_mem_cons.mpr ⟨px_k_get fk_X9_23, fun _ h => nomatch h⟩⟩⟩⟩⟩⟩
set_option maxRecDepth 20000 in
theorem ok_X9_scrape : px_okMt kt_mt kt_T vwCl kt_X M_X9_scrape := px_mk (M := M_X9_scrape) rfl (by decide) ⟨by decide, by decide⟩ (by decide) kw_405 kw_486 trivial de_X9_scrape (by decide +kernel) lk_X9_scrape
set_option maxRecDepth 20000 in
theorem de_X9_undo : px_dec cX9_undo (ls_X9_undo ++ ll_X9_undo) := by unfold px_dec; decide +kernel
set_option maxRecDepth 20000 in
set_option maxHeartbeats 4000000 in
theorem lk_X9_undo : ∀ q ∈ ll_X9_undo, px_okR kt_mt kt_T vwCl kt_X yX9_undo cX9_undo q.1 q.2 := List.forall_mem_cons.mpr ⟨px_k_get fk_X9_36, List.forall_mem_cons.mpr ⟨px_k_get fk_X9_135, List.forall_mem_cons.mpr ⟨px_k_get fk_X9_36, List.forall_mem_cons.mpr ⟨px_k_get fk_X9_23, List.forall_mem_cons.mpr ⟨px_k_vir (by decide) mt_3 ⟨rfl, kw_487, kw_488, kw_489, ⟨_, _, rfl⟩, pd_3⟩, List.forall_mem_cons.mpr ⟨px_k_vir (by decide) mt_117 ⟨rfl, kw_431, kw_432, kw_433, ⟨_, _, rfl⟩, pd_117⟩, List.forall_mem_cons.mpr ⟨px_k_get fk_X9_36, List.forall_mem_cons.mpr ⟨px_k_get fk_X9_135, fun _ h => nomatch h⟩⟩⟩⟩⟩⟩⟩⟩
set_option maxRecDepth 20000 in
theorem ok_X9_undo : px_okMt kt_mt kt_T vwCl kt_X M_X9_undo := px_mk (M := M_X9_undo) rfl (by decide) ⟨by decide, by decide⟩ (by decide) kw_405 kw_490 trivial de_X9_undo (by decide +kernel) lk_X9_undo
set_option maxRecDepth 20000 in
theorem de_X9_then : px_dec cX9_then (ls_X9_then ++ ll_X9_then) := by unfold px_dec; decide +kernel
set_option maxRecDepth 20000 in
set_option maxHeartbeats 4000000 in
theorem lk_X9_then : ∀ q ∈ ll_X9_then, px_okR kt_mt kt_T vwCl kt_X yX9_then cX9_then q.1 q.2 := List.forall_mem_cons.mpr ⟨px_k_vir (by decide) mt_112 ⟨rfl, kw_457, kw_458, kw_459, ⟨_, _, rfl⟩, pd_112⟩, List.forall_mem_cons.mpr ⟨px_k_vir (by decide) mt_115 ⟨rfl, kw_491, kw_492, kw_493, ⟨_, _, rfl⟩, pd_115⟩, List.forall_mem_cons.mpr ⟨px_k_vir (by decide) mt_118 ⟨rfl, kw_494, kw_495, kw_496, ⟨_, _, rfl⟩, pd_118⟩, List.forall_mem_cons.mpr ⟨px_k_get fk_X9_19, List.forall_mem_cons.mpr ⟨px_k_get fk_X9_27, List.forall_mem_cons.mpr ⟨px_k_vir (by decide) mt_23 ⟨rfl, kw_481, kw_43, kw_44, ⟨_, _, rfl⟩, pd_23⟩, List.forall_mem_cons.mpr ⟨px_k_get fk_X9_27, fun _ h => nomatch h⟩⟩⟩⟩⟩⟩⟩
set_option maxRecDepth 20000 in
theorem ok_X9_then : px_okMt kt_mt kt_T vwCl kt_X M_X9_then := px_mk (M := M_X9_then) rfl (by decide) ⟨by decide, by decide⟩ (by decide) kw_405 kw_497 trivial de_X9_then (by decide +kernel) lk_X9_then
set_option maxRecDepth 20000 in
theorem de_X9_sung : px_dec cX9_sung (ls_X9_sung ++ ll_X9_sung) := by unfold px_dec; decide +kernel
set_option maxRecDepth 20000 in
set_option maxHeartbeats 4000000 in
theorem lk_X9_sung : ∀ q ∈ ll_X9_sung, px_okR kt_mt kt_T vwCl kt_X yX9_sung cX9_sung q.1 q.2 := List.forall_mem_cons.mpr ⟨px_k_vir (by decide) mt_112 ⟨rfl, kw_457, kw_458, kw_459, ⟨_, _, rfl⟩, pd_112⟩, List.forall_mem_cons.mpr ⟨px_k_vir (by decide) mt_118 ⟨rfl, kw_494, kw_495, kw_496, ⟨_, _, rfl⟩, pd_118⟩, List.forall_mem_cons.mpr ⟨px_k_get fk_X9_19, List.forall_mem_cons.mpr ⟨px_k_get fk_X9_27, List.forall_mem_cons.mpr ⟨px_k_vir (by decide) mt_23 ⟨rfl, kw_481, kw_43, kw_44, ⟨_, _, rfl⟩, pd_23⟩, List.forall_mem_cons.mpr ⟨px_k_get fk_X9_27, fun _ h => nomatch h⟩⟩⟩⟩⟩⟩
set_option maxRecDepth 20000 in
theorem ok_X9_sung : px_okMt kt_mt kt_T vwCl kt_X M_X9_sung := px_mk (M := M_X9_sung) rfl (by decide) ⟨by decide, by decide⟩ (by decide) kw_405 kw_498 trivial de_X9_sung (by decide +kernel) lk_X9_sung
set_option maxRecDepth 20000 in
theorem de_X9_done : px_dec cX9_done (ls_X9_done ++ ll_X9_done) := by unfold px_dec; decide +kernel
set_option maxRecDepth 20000 in
set_option maxHeartbeats 4000000 in
theorem lk_X9_done : ∀ q ∈ ll_X9_done, px_okR kt_mt kt_T vwCl kt_X yX9_done cX9_done q.1 q.2 := List.forall_mem_cons.mpr ⟨px_k_vir (by decide) mt_114 ⟨rfl, kw_472, kw_473, kw_474, ⟨_, _, rfl⟩, pd_114⟩, List.forall_mem_cons.mpr ⟨px_k_vir (by decide) mt_118 ⟨rfl, kw_494, kw_495, kw_496, ⟨_, _, rfl⟩, pd_118⟩, List.forall_mem_cons.mpr ⟨px_k_get fk_X9_27, List.forall_mem_cons.mpr ⟨px_k_get fk_X9_19, List.forall_mem_cons.mpr ⟨px_k_get fk_X9_27, List.forall_mem_cons.mpr ⟨px_k_vir (by decide) mt_23 ⟨rfl, kw_481, kw_43, kw_44, ⟨_, _, rfl⟩, pd_23⟩, List.forall_mem_cons.mpr ⟨px_k_get fk_X9_27, fun _ h => nomatch h⟩⟩⟩⟩⟩⟩⟩
set_option maxRecDepth 20000 in
theorem ok_X9_done : px_okMt kt_mt kt_T vwCl kt_X M_X9_done := px_mk (M := M_X9_done) rfl (by decide) ⟨by decide, by decide⟩ (by decide) kw_405 kw_499 trivial de_X9_done (by decide +kernel) lk_X9_done
set_option maxRecDepth 20000 in
theorem de_X9_fugue : px_dec cX9_fugue (ls_X9_fugue ++ ll_X9_fugue) := by unfold px_dec; decide +kernel
set_option maxRecDepth 20000 in
set_option maxHeartbeats 4000000 in
theorem lk_X9_fugue : ∀ q ∈ ll_X9_fugue, px_okR kt_mt kt_T vwCl kt_X yX9_fugue cX9_fugue q.1 q.2 := List.forall_mem_cons.mpr ⟨px_k_thr (by decide) (fun _ => ⟨196, 80, 5, 7, 2, "not 1 to 8 kettles", kt_thn, prog_17_method_2_code, rfl, by decide, kt_f900, kt_fn, by decide, kt_x900, kw_412, kw_413, rfl, kt_g900_X9_80, kt_b900_X9_80, kt_o900_X9_80_76, by decide +kernel, Or.inl ⟨by decide +kernel, rfl⟩, by decide +kernel, by decide +kernel⟩), List.forall_mem_cons.mpr ⟨px_k_vir (by decide) mt_118 ⟨rfl, kw_494, kw_495, kw_496, ⟨_, _, rfl⟩, pd_118⟩, List.forall_mem_cons.mpr ⟨px_k_get fk_X9_19, List.forall_mem_cons.mpr ⟨px_k_get fk_X9_27, List.forall_mem_cons.mpr ⟨px_k_vir (by decide) mt_23 ⟨rfl, kw_481, kw_43, kw_44, ⟨_, _, rfl⟩, pd_23⟩, List.forall_mem_cons.mpr ⟨px_k_get fk_X9_19, List.forall_mem_cons.mpr ⟨px_k_get fk_X9_198, fun _ h => nomatch h⟩⟩⟩⟩⟩⟩⟩
set_option maxRecDepth 20000 in
theorem ok_X9_fugue : px_okMt kt_mt kt_T vwCl kt_X M_X9_fugue := px_mk (M := M_X9_fugue) rfl (by decide) ⟨by decide, by decide⟩ (by decide) kw_405 kw_501 trivial de_X9_fugue (by decide +kernel) lk_X9_fugue
set_option maxRecDepth 20000 in
theorem de_X9_quiet : px_dec cX9_quiet (ls_X9_quiet ++ ll_X9_quiet) := by unfold px_dec; decide +kernel
set_option maxRecDepth 20000 in
set_option maxHeartbeats 4000000 in
theorem lk_X9_quiet : ∀ q ∈ ll_X9_quiet, px_okR kt_mt kt_T vwCl kt_X yX9_quiet cX9_quiet q.1 q.2 := List.forall_mem_cons.mpr ⟨px_k_vir (by decide) mt_119 ⟨rfl, kw_440, kw_441, kw_442, ⟨_, _, rfl⟩, pd_119⟩, List.forall_mem_cons.mpr ⟨px_k_vir (by decide) mt_118 ⟨rfl, kw_494, kw_495, kw_496, ⟨_, _, rfl⟩, pd_118⟩, List.forall_mem_cons.mpr ⟨px_k_get fk_X9_19, List.forall_mem_cons.mpr ⟨px_k_get fk_X9_27, List.forall_mem_cons.mpr ⟨px_k_vir (by decide) mt_23 ⟨rfl, kw_481, kw_43, kw_44, ⟨_, _, rfl⟩, pd_23⟩, List.forall_mem_cons.mpr ⟨px_k_get fk_X9_19, List.forall_mem_cons.mpr ⟨px_k_get fk_X9_198, List.forall_mem_cons.mpr ⟨px_k_get fk_X9_19, List.forall_mem_cons.mpr ⟨px_k_get fk_X9_198, fun _ h => nomatch h⟩⟩⟩⟩⟩⟩⟩⟩⟩
set_option maxRecDepth 20000 in
theorem ok_X9_quiet : px_okMt kt_mt kt_T vwCl kt_X M_X9_quiet := px_mk (M := M_X9_quiet) rfl (by decide) ⟨by decide, by decide⟩ (by decide) kw_405 kw_502 trivial de_X9_quiet (by decide +kernel) lk_X9_quiet
set_option maxRecDepth 20000 in
theorem de_X9_loudest : px_dec cX9_loudest (ls_X9_loudest ++ ll_X9_loudest) := by unfold px_dec; decide +kernel
set_option maxRecDepth 20000 in
set_option maxHeartbeats 4000000 in
theorem lk_X9_loudest : ∀ q ∈ ll_X9_loudest, px_okR kt_mt kt_T vwCl kt_X yX9_loudest cX9_loudest q.1 q.2 := List.forall_mem_cons.mpr ⟨px_k_thr (by decide) (fun _ => ⟨201, 143, 6, 13, 2, "the loudest minute has no such thing", kt_thn, prog_29_method_4_code, rfl, by decide, kt_f901, kt_fn, by decide, kt_x901, kw_454, kw_455, rfl, kt_g901_X9_143, kt_b901_X9_143, kt_o901_X9_143_139, by decide +kernel, Or.inl ⟨by decide +kernel, rfl⟩, by decide +kernel, by decide +kernel⟩), List.forall_mem_cons.mpr ⟨px_k_vir (by decide) mt_118 ⟨rfl, kw_494, kw_495, kw_496, ⟨_, _, rfl⟩, pd_118⟩, List.forall_mem_cons.mpr ⟨px_k_get fk_X9_19, List.forall_mem_cons.mpr ⟨px_k_get fk_X9_27, List.forall_mem_cons.mpr ⟨px_k_vir (by decide) mt_23 ⟨rfl, kw_481, kw_43, kw_44, ⟨_, _, rfl⟩, pd_23⟩, List.forall_mem_cons.mpr ⟨px_k_get fk_X9_19, List.forall_mem_cons.mpr ⟨px_k_get fk_X9_198, List.forall_mem_cons.mpr ⟨px_k_get fk_X9_19, List.forall_mem_cons.mpr ⟨px_k_get fk_X9_198, fun _ h => nomatch h⟩⟩⟩⟩⟩⟩⟩⟩⟩
set_option maxRecDepth 20000 in
theorem ok_X9_loudest : px_okMt kt_mt kt_T vwCl kt_X M_X9_loudest := px_mk (M := M_X9_loudest) rfl (by decide) ⟨by decide, by decide⟩ (by decide) kw_405 kw_503 trivial de_X9_loudest (by decide +kernel) lk_X9_loudest
set_option maxRecDepth 20000 in
theorem de_X9_dry : px_dec cX9_dry (ls_X9_dry ++ ll_X9_dry) := by unfold px_dec; decide +kernel
set_option maxRecDepth 20000 in
set_option maxHeartbeats 4000000 in
theorem lk_X9_dry : ∀ q ∈ ll_X9_dry, px_okR kt_mt kt_T vwCl kt_X yX9_dry cX9_dry q.1 q.2 := List.forall_mem_cons.mpr ⟨px_k_vir (by decide) mt_112 ⟨rfl, kw_457, kw_458, kw_459, ⟨_, _, rfl⟩, pd_112⟩, List.forall_mem_cons.mpr ⟨px_k_vir (by decide) mt_118 ⟨rfl, kw_494, kw_495, kw_496, ⟨_, _, rfl⟩, pd_118⟩, List.forall_mem_cons.mpr ⟨px_k_get fk_X9_27, List.forall_mem_cons.mpr ⟨px_k_get fk_X9_19, List.forall_mem_cons.mpr ⟨px_k_get fk_X9_27, List.forall_mem_cons.mpr ⟨px_k_vir (by decide) mt_23 ⟨rfl, kw_481, kw_43, kw_44, ⟨_, _, rfl⟩, pd_23⟩, List.forall_mem_cons.mpr ⟨px_k_get fk_X9_27, fun _ h => nomatch h⟩⟩⟩⟩⟩⟩⟩
set_option maxRecDepth 20000 in
theorem ok_X9_dry : px_okMt kt_mt kt_T vwCl kt_X M_X9_dry := px_mk (M := M_X9_dry) rfl (by decide) ⟨by decide, by decide⟩ (by decide) kw_405 kw_504 trivial de_X9_dry (by decide +kernel) lk_X9_dry
set_option maxRecDepth 20000 in
theorem de_X9_soonest : px_dec cX9_soonest (ls_X9_soonest ++ ll_X9_soonest) := by unfold px_dec; decide +kernel
set_option maxRecDepth 20000 in
set_option maxHeartbeats 4000000 in
theorem lk_X9_soonest : ∀ q ∈ ll_X9_soonest, px_okR kt_mt kt_T vwCl kt_X yX9_soonest cX9_soonest q.1 q.2 := List.forall_mem_cons.mpr ⟨px_k_vir (by decide) mt_114 ⟨rfl, kw_472, kw_473, kw_474, ⟨_, _, rfl⟩, pd_114⟩, List.forall_mem_cons.mpr ⟨px_k_vir (by decide) mt_113 ⟨rfl, kw_464, kw_465, kw_466, ⟨_, _, rfl⟩, pd_113⟩, List.forall_mem_cons.mpr ⟨px_k_get fk_X9_57, List.forall_mem_cons.mpr ⟨px_k_get fk_X9_19, List.forall_mem_cons.mpr ⟨px_k_get fk_X9_23, List.forall_mem_cons.mpr ⟨px_k_vir (by decide) mt_35 ⟨rfl, kw_505, kw_506, kw_507, ⟨_, _, rfl⟩, pd_35⟩, List.forall_mem_cons.mpr ⟨px_k_get fk_X9_57, List.forall_mem_cons.mpr ⟨px_k_get fk_X9_207, List.forall_mem_cons.mpr ⟨px_k_get fk_X9_57, List.forall_mem_cons.mpr ⟨px_k_get fk_X9_210, fun _ h => nomatch h⟩⟩⟩⟩⟩⟩⟩⟩⟩⟩
set_option maxRecDepth 20000 in
theorem ok_X9_soonest : px_okMt kt_mt kt_T vwCl kt_X M_X9_soonest := px_mk (M := M_X9_soonest) rfl (by decide) ⟨by decide, by decide⟩ (by decide) kw_405 kw_510 trivial de_X9_soonest (by decide +kernel) lk_X9_soonest
set_option maxRecDepth 20000 in
theorem de_X9_tuned : px_dec cX9_tuned (ls_X9_tuned ++ ll_X9_tuned) := by unfold px_dec; decide +kernel
set_option maxRecDepth 20000 in
set_option maxHeartbeats 4000000 in
theorem lk_X9_tuned : ∀ q ∈ ll_X9_tuned, px_okR kt_mt kt_T vwCl kt_X yX9_tuned cX9_tuned q.1 q.2 := List.forall_mem_cons.mpr ⟨px_k_vir (by decide) mt_112 ⟨rfl, kw_457, kw_458, kw_459, ⟨_, _, rfl⟩, pd_112⟩, List.forall_mem_cons.mpr ⟨px_k_thr (by decide) (fun _ => ⟨213, 80, 7, 7, 2, "not a note", kt_thn, prog_17_method_2_code, rfl, by decide, kt_f900, kt_fn, by decide, kt_x900, kw_412, kw_413, rfl, kt_g900_X9_80, kt_b900_X9_80, kt_o900_X9_80_76, by decide +kernel, Or.inl ⟨by decide +kernel, rfl⟩, by decide +kernel, by decide +kernel⟩), List.forall_mem_cons.mpr ⟨px_k_get fk_X9_64, List.forall_mem_cons.mpr ⟨px_k_get fk_X9_19, List.forall_mem_cons.mpr ⟨px_k_get fk_X9_23, List.forall_mem_cons.mpr ⟨px_k_vir (by decide) mt_73 ⟨rfl, kw_511, kw_379, kw_380, ⟨_, _, rfl⟩, pd_73⟩, fun _ h => nomatch h⟩⟩⟩⟩⟩⟩
set_option maxRecDepth 20000 in
theorem ok_X9_tuned : px_okMt kt_mt kt_T vwCl kt_X M_X9_tuned := px_mk (M := M_X9_tuned) rfl (by decide) ⟨by decide, by decide⟩ (by decide) kw_405 kw_512 trivial de_X9_tuned (by decide +kernel) lk_X9_tuned
set_option maxRecDepth 20000 in
theorem de_X9_chord : px_dec cX9_chord (ls_X9_chord ++ ll_X9_chord) := by unfold px_dec; decide +kernel
set_option maxRecDepth 20000 in
set_option maxHeartbeats 4000000 in
theorem lk_X9_chord : ∀ q ∈ ll_X9_chord, px_okR kt_mt kt_T vwCl kt_X yX9_chord cX9_chord q.1 q.2 := List.forall_mem_cons.mpr ⟨px_k_vir (by decide) mt_114 ⟨rfl, kw_472, kw_473, kw_474, ⟨_, _, rfl⟩, pd_114⟩, List.forall_mem_cons.mpr ⟨px_k_get fk_X9_64, List.forall_mem_cons.mpr ⟨px_k_get fk_X9_19, List.forall_mem_cons.mpr ⟨px_k_get fk_X9_23, List.forall_mem_cons.mpr ⟨px_k_vir (by decide) mt_74 ⟨rfl, kw_513, kw_514, kw_515, ⟨_, _, rfl⟩, pd_74⟩, fun _ h => nomatch h⟩⟩⟩⟩⟩
set_option maxRecDepth 20000 in
theorem ok_X9_chord : px_okMt kt_mt kt_T vwCl kt_X M_X9_chord := px_mk (M := M_X9_chord) rfl (by decide) ⟨by decide, by decide⟩ (by decide) kw_405 kw_516 trivial de_X9_chord (by decide +kernel) lk_X9_chord
set_option maxRecDepth 20000 in
theorem de_X9_burner : px_dec cX9_burner (ls_X9_burner ++ ll_X9_burner) := by unfold px_dec; decide +kernel
set_option maxRecDepth 20000 in
set_option maxHeartbeats 4000000 in
theorem lk_X9_burner : ∀ q ∈ ll_X9_burner, px_okR kt_mt kt_T vwCl kt_X yX9_burner cX9_burner q.1 q.2 := List.forall_mem_cons.mpr ⟨px_k_vir (by decide) mt_112 ⟨rfl, kw_457, kw_458, kw_459, ⟨_, _, rfl⟩, pd_112⟩, List.forall_mem_cons.mpr ⟨px_k_vir (by decide) mt_115 ⟨rfl, kw_491, kw_492, kw_493, ⟨_, _, rfl⟩, pd_115⟩, List.forall_mem_cons.mpr ⟨px_k_vir (by decide) mt_118 ⟨rfl, kw_494, kw_495, kw_496, ⟨_, _, rfl⟩, pd_118⟩, List.forall_mem_cons.mpr ⟨px_k_get fk_X9_19, List.forall_mem_cons.mpr ⟨px_k_get fk_X9_27, List.forall_mem_cons.mpr ⟨px_k_vir (by decide) mt_24 ⟨rfl, kw_517, kw_114, kw_115, ⟨_, _, rfl⟩, pd_24⟩, List.forall_mem_cons.mpr ⟨px_k_get fk_X9_19, List.forall_mem_cons.mpr ⟨px_k_get fk_X9_27, List.forall_mem_cons.mpr ⟨px_k_vir (by decide) mt_26 ⟨rfl, kw_518, kw_140, kw_141, ⟨_, _, rfl⟩, pd_26⟩, List.forall_mem_cons.mpr ⟨px_k_get fk_X9_27, fun _ h => nomatch h⟩⟩⟩⟩⟩⟩⟩⟩⟩⟩
set_option maxRecDepth 20000 in
theorem ok_X9_burner : px_okMt kt_mt kt_T vwCl kt_X M_X9_burner := px_mk (M := M_X9_burner) rfl (by decide) ⟨by decide, by decide⟩ (by decide) kw_405 kw_519 trivial de_X9_burner (by decide +kernel) lk_X9_burner
set_option maxRecDepth 20000 in
theorem de_X9_together : px_dec cX9_together (ls_X9_together ++ ll_X9_together) := by unfold px_dec; decide +kernel
set_option maxRecDepth 20000 in
set_option maxHeartbeats 4000000 in
theorem lk_X9_together : ∀ q ∈ ll_X9_together, px_okR kt_mt kt_T vwCl kt_X yX9_together cX9_together q.1 q.2 := List.forall_mem_cons.mpr ⟨px_k_vir (by decide) mt_112 ⟨rfl, kw_457, kw_458, kw_459, ⟨_, _, rfl⟩, pd_112⟩, List.forall_mem_cons.mpr ⟨px_k_vir (by decide) mt_112 ⟨rfl, kw_457, kw_458, kw_459, ⟨_, _, rfl⟩, pd_112⟩, List.forall_mem_cons.mpr ⟨px_k_thr (by decide) (fun _ => ⟨231, 80, 8, 7, 2, "both are one, or not a power, or not steps", kt_thn, prog_17_method_2_code, rfl, by decide, kt_f900, kt_fn, by decide, kt_x900, kw_412, kw_413, rfl, kt_g900_X9_80, kt_b900_X9_80, kt_o900_X9_80_76, by decide +kernel, Or.inl ⟨by decide +kernel, rfl⟩, by decide +kernel, by decide +kernel⟩), List.forall_mem_cons.mpr ⟨px_k_vir (by decide) mt_118 ⟨rfl, kw_494, kw_495, kw_496, ⟨_, _, rfl⟩, pd_118⟩, List.forall_mem_cons.mpr ⟨px_k_vir (by decide) mt_124 ⟨rfl, kw_520, kw_521, kw_522, ⟨_, _, rfl⟩, pd_124⟩, List.forall_mem_cons.mpr ⟨px_k_vir (by decide) mt_124 ⟨rfl, kw_520, kw_521, kw_522, ⟨_, _, rfl⟩, pd_124⟩, List.forall_mem_cons.mpr ⟨px_k_abs kt_no1003 ⟨kw_523, kw_358, kw_131, kw_359⟩, List.forall_mem_cons.mpr ⟨px_k_get fk_X9_27, fun _ h => nomatch h⟩⟩⟩⟩⟩⟩⟩⟩
set_option maxRecDepth 20000 in
theorem ok_X9_together : px_okMt kt_mt kt_T vwCl kt_X M_X9_together := px_mk (M := M_X9_together) rfl (by decide) ⟨by decide, by decide⟩ (by decide) kw_405 kw_524 trivial de_X9_together (by decide +kernel) lk_X9_together
set_option maxRecDepth 20000 in
theorem de_X9_hear : px_dec cX9_hear (ls_X9_hear ++ ll_X9_hear) := by unfold px_dec; decide +kernel
set_option maxRecDepth 20000 in
set_option maxHeartbeats 4000000 in
theorem lk_X9_hear : ∀ q ∈ ll_X9_hear, px_okR kt_mt kt_T vwCl kt_X yX9_hear cX9_hear q.1 q.2 := List.forall_mem_cons.mpr ⟨px_k_get fk_X9_43, List.forall_mem_cons.mpr ⟨px_k_get fk_X9_138, List.forall_mem_cons.mpr ⟨px_k_get fk_X9_30, List.forall_mem_cons.mpr ⟨px_k_get fk_X9_43, List.forall_mem_cons.mpr ⟨px_k_vir (by decide) mt_13 ⟨rfl, kw_525, kw_526, kw_527, ⟨_, _, rfl⟩, pd_13⟩, List.forall_mem_cons.mpr ⟨px_k_vir (by decide) mt_117 ⟨rfl, kw_431, kw_432, kw_433, ⟨_, _, rfl⟩, pd_117⟩, List.forall_mem_cons.mpr ⟨px_k_get fk_X9_43, List.forall_mem_cons.mpr ⟨px_k_get fk_X9_138, fun _ h => nomatch h⟩⟩⟩⟩⟩⟩⟩⟩
set_option maxRecDepth 20000 in
theorem ok_X9_hear : px_okMt kt_mt kt_T vwCl kt_X M_X9_hear := px_mk (M := M_X9_hear) rfl (by decide) ⟨by decide, by decide⟩ (by decide) kw_405 kw_528 trivial de_X9_hear (by decide +kernel) lk_X9_hear
set_option maxRecDepth 20000 in
theorem de_X9_chalk : px_dec cX9_chalk (ls_X9_chalk ++ ll_X9_chalk) := by unfold px_dec; decide +kernel
set_option maxRecDepth 20000 in
set_option maxHeartbeats 4000000 in
theorem lk_X9_chalk : ∀ q ∈ ll_X9_chalk, px_okR kt_mt kt_T vwCl kt_X yX9_chalk cX9_chalk q.1 q.2 := List.forall_mem_cons.mpr ⟨px_k_thr (by decide) (fun _ => ⟨246, 143, 9, 13, 2, "the chalk has no such thing", kt_thn, prog_29_method_4_code, rfl, by decide, kt_f901, kt_fn, by decide, kt_x901, kw_454, kw_455, rfl, kt_g901_X9_143, kt_b901_X9_143, kt_o901_X9_143_139, by decide +kernel, Or.inl ⟨by decide +kernel, rfl⟩, by decide +kernel, by decide +kernel⟩), List.forall_mem_cons.mpr ⟨px_k_get fk_X9_50, List.forall_mem_cons.mpr ⟨px_k_get fk_X9_19, List.forall_mem_cons.mpr ⟨px_k_get fk_X9_23, List.forall_mem_cons.mpr ⟨px_k_get fk_X9_43, List.forall_mem_cons.mpr ⟨px_k_vir (by decide) mt_6 ⟨rfl, kw_529, kw_530, kw_531, ⟨_, _, rfl⟩, pd_6⟩, List.forall_mem_cons.mpr ⟨px_k_get fk_X9_50, List.forall_mem_cons.mpr ⟨px_k_get fk_X9_19, List.forall_mem_cons.mpr ⟨px_k_get fk_X9_23, List.forall_mem_cons.mpr ⟨px_k_get fk_X9_43, List.forall_mem_cons.mpr ⟨px_k_vir (by decide) mt_7 ⟨rfl, kw_532, kw_533, kw_534, ⟨_, _, rfl⟩, pd_7⟩, List.forall_mem_cons.mpr ⟨px_k_get fk_X9_50, List.forall_mem_cons.mpr ⟨px_k_get fk_X9_256, List.forall_mem_cons.mpr ⟨px_k_get fk_X9_50, List.forall_mem_cons.mpr ⟨px_k_get fk_X9_257, fun _ h => nomatch h⟩⟩⟩⟩⟩⟩⟩⟩⟩⟩⟩⟩⟩⟩⟩
set_option maxRecDepth 20000 in
theorem ok_X9_chalk : px_okMt kt_mt kt_T vwCl kt_X M_X9_chalk := px_mk (M := M_X9_chalk) rfl (by decide) ⟨by decide, by decide⟩ (by decide) kw_405 kw_537 trivial de_X9_chalk (by decide +kernel) lk_X9_chalk
set_option maxRecDepth 20000 in
theorem de_X9_listen : px_dec cX9_listen (ls_X9_listen ++ ll_X9_listen) := by unfold px_dec; decide +kernel
set_option maxRecDepth 20000 in
set_option maxHeartbeats 4000000 in
theorem lk_X9_listen : ∀ q ∈ ll_X9_listen, px_okR kt_mt kt_T vwCl kt_X yX9_listen cX9_listen q.1 q.2 := List.forall_mem_cons.mpr ⟨px_k_thr (by decide) (fun _ => ⟨260, 143, 10, 13, 3, "listening has no such thing", kt_thn, prog_29_method_4_code, rfl, by decide, kt_f901, kt_fn, by decide, kt_x901, kw_454, kw_455, rfl, kt_g901_X9_143, kt_b901_X9_143, kt_o901_X9_143_139, by decide +kernel, Or.inr ⟨by decide +kernel, rfl⟩, by decide +kernel, by decide +kernel⟩), List.forall_mem_cons.mpr ⟨px_k_get fk_X9_50, List.forall_mem_cons.mpr ⟨px_k_get fk_X9_19, List.forall_mem_cons.mpr ⟨px_k_get fk_X9_23, List.forall_mem_cons.mpr ⟨px_k_get fk_X9_43, List.forall_mem_cons.mpr ⟨px_k_vir (by decide) mt_7 ⟨rfl, kw_532, kw_533, kw_534, ⟨_, _, rfl⟩, pd_7⟩, List.forall_mem_cons.mpr ⟨px_k_get fk_X9_50, List.forall_mem_cons.mpr ⟨px_k_get fk_X9_262, List.forall_mem_cons.mpr ⟨px_k_get fk_X9_50, List.forall_mem_cons.mpr ⟨px_k_get fk_X9_265, fun _ h => nomatch h⟩⟩⟩⟩⟩⟩⟩⟩⟩⟩
set_option maxRecDepth 20000 in
theorem ok_X9_listen : px_okMt kt_mt kt_T vwCl kt_X M_X9_listen := px_mk (M := M_X9_listen) rfl (by decide) ⟨by decide, by decide⟩ (by decide) kw_405 kw_540 trivial de_X9_listen (by decide +kernel) lk_X9_listen
set_option maxRecDepth 20000 in
theorem de_X9_forget : px_dec cX9_forget (ls_X9_forget ++ ll_X9_forget) := by unfold px_dec; decide +kernel
set_option maxRecDepth 20000 in
set_option maxHeartbeats 4000000 in
theorem lk_X9_forget : ∀ q ∈ ll_X9_forget, px_okR kt_mt kt_T vwCl kt_X yX9_forget cX9_forget q.1 q.2 := List.forall_mem_cons.mpr ⟨px_k_get fk_X9_43, List.forall_mem_cons.mpr ⟨px_k_vir (by decide) mt_12 ⟨rfl, kw_427, kw_428, kw_429, ⟨_, _, rfl⟩, pd_12⟩, List.forall_mem_cons.mpr ⟨px_k_vir (by decide) mt_117 ⟨rfl, kw_431, kw_432, kw_433, ⟨_, _, rfl⟩, pd_117⟩, fun _ h => nomatch h⟩⟩⟩
set_option maxRecDepth 20000 in
theorem ok_X9_forget : px_okMt kt_mt kt_T vwCl kt_X M_X9_forget := px_mk (M := M_X9_forget) rfl (by decide) ⟨by decide, by decide⟩ (by decide) kw_405 kw_541 trivial de_X9_forget (by decide +kernel) lk_X9_forget
set_option maxRecDepth 20000 in
theorem de_X9_game : px_dec cX9_game (ls_X9_game ++ ll_X9_game) := by unfold px_dec; decide +kernel
set_option maxRecDepth 20000 in
set_option maxHeartbeats 4000000 in
theorem lk_X9_game : ∀ q ∈ ll_X9_game, px_okR kt_mt kt_T vwCl kt_X yX9_game cX9_game q.1 q.2 := List.forall_mem_cons.mpr ⟨px_k_vir (by decide) mt_112 ⟨rfl, kw_457, kw_458, kw_459, ⟨_, _, rfl⟩, pd_112⟩, List.forall_mem_cons.mpr ⟨px_k_vir (by decide) mt_112 ⟨rfl, kw_457, kw_458, kw_459, ⟨_, _, rfl⟩, pd_112⟩, List.forall_mem_cons.mpr ⟨px_k_thr (by decide) (fun _ => ⟨268, 143, 11, 13, 3, "a game has no such thing", kt_thn, prog_29_method_4_code, rfl, by decide, kt_f901, kt_fn, by decide, kt_x901, kw_454, kw_455, rfl, kt_g901_X9_143, kt_b901_X9_143, kt_o901_X9_143_139, by decide +kernel, Or.inr ⟨by decide +kernel, rfl⟩, by decide +kernel, by decide +kernel⟩), List.forall_mem_cons.mpr ⟨px_k_thr (by decide) (fun _ => ⟨270, 80, 12, 7, 3, "both are one", kt_thn, prog_17_method_2_code, rfl, by decide, kt_f900, kt_fn, by decide, kt_x900, kw_412, kw_413, rfl, kt_g900_X9_80, kt_b900_X9_80, kt_o900_X9_80_76, by decide +kernel, Or.inr ⟨by decide +kernel, rfl⟩, by decide +kernel, by decide +kernel⟩), List.forall_mem_cons.mpr ⟨px_k_get fk_X9_23, List.forall_mem_cons.mpr ⟨px_k_get fk_X9_23, List.forall_mem_cons.mpr ⟨px_k_vir (by decide) mt_125 ⟨rfl, kw_542, kw_543, kw_544, ⟨_, _, rfl⟩, pd_125⟩, List.forall_mem_cons.mpr ⟨px_k_vir (by decide) mt_125 ⟨rfl, kw_542, kw_543, kw_544, ⟨_, _, rfl⟩, pd_125⟩, fun _ h => nomatch h⟩⟩⟩⟩⟩⟩⟩⟩
set_option maxRecDepth 20000 in
theorem ok_X9_game : px_okMt kt_mt kt_T vwCl kt_X M_X9_game := px_mk (M := M_X9_game) rfl (by decide) ⟨by decide, by decide⟩ (by decide) kw_405 kw_545 trivial de_X9_game (by decide +kernel) lk_X9_game
set_option maxRecDepth 20000 in
theorem de_X9_evening : px_dec cX9_evening (ls_X9_evening ++ ll_X9_evening) := by unfold px_dec; decide +kernel
set_option maxRecDepth 20000 in
set_option maxHeartbeats 4000000 in
theorem lk_X9_evening : ∀ q ∈ ll_X9_evening, px_okR kt_mt kt_T vwCl kt_X yX9_evening cX9_evening q.1 q.2 := List.forall_mem_cons.mpr ⟨px_k_thr (by decide) (fun _ => ⟨276, 143, 13, 13, 3, "an evening has no such thing", kt_thn, prog_29_method_4_code, rfl, by decide, kt_f901, kt_fn, by decide, kt_x901, kw_454, kw_455, rfl, kt_g901_X9_143, kt_b901_X9_143, kt_o901_X9_143_139, by decide +kernel, Or.inr ⟨by decide +kernel, rfl⟩, by decide +kernel, by decide +kernel⟩), List.forall_mem_cons.mpr ⟨px_k_thr (by decide) (fun _ => ⟨278, 80, 14, 7, 3, "not 0 to 90 minutes", kt_thn, prog_17_method_2_code, rfl, by decide, kt_f900, kt_fn, by decide, kt_x900, kw_412, kw_413, rfl, kt_g900_X9_80, kt_b900_X9_80, kt_o900_X9_80_76, by decide +kernel, Or.inr ⟨by decide +kernel, rfl⟩, by decide +kernel, by decide +kernel⟩), List.forall_mem_cons.mpr ⟨px_k_vir (by decide) mt_118 ⟨rfl, kw_494, kw_495, kw_496, ⟨_, _, rfl⟩, pd_118⟩, List.forall_mem_cons.mpr ⟨px_k_get fk_X9_19, List.forall_mem_cons.mpr ⟨px_k_get fk_X9_112, List.forall_mem_cons.mpr ⟨px_k_vir (by decide) mt_127 ⟨rfl, kw_546, kw_547, kw_548, ⟨_, _, rfl⟩, pd_127⟩, List.forall_mem_cons.mpr ⟨px_k_get fk_X9_19, List.forall_mem_cons.mpr ⟨px_k_get fk_X9_112, List.forall_mem_cons.mpr ⟨px_k_vir (by decide) mt_128 ⟨rfl, kw_549, kw_550, kw_551, ⟨_, _, rfl⟩, pd_128⟩, List.forall_mem_cons.mpr ⟨px_k_vir (by decide) mt_127 ⟨rfl, kw_546, kw_547, kw_548, ⟨_, _, rfl⟩, pd_127⟩, List.forall_mem_cons.mpr ⟨px_k_vir (by decide) mt_128 ⟨rfl, kw_549, kw_550, kw_551, ⟨_, _, rfl⟩, pd_128⟩, List.forall_mem_cons.mpr ⟨px_k_vir (by decide) mt_129 ⟨rfl, kw_552, kw_553, kw_554, ⟨_, _, rfl⟩, pd_129⟩, List.forall_mem_cons.mpr ⟨px_k_get fk_X9_19, List.forall_mem_cons.mpr ⟨px_k_get fk_X9_27, List.forall_mem_cons.mpr ⟨px_k_vir (by decide) mt_23 ⟨rfl, kw_481, kw_43, kw_44, ⟨_, _, rfl⟩, pd_23⟩, List.forall_mem_cons.mpr ⟨px_k_get fk_X9_19, List.forall_mem_cons.mpr ⟨px_k_get fk_X9_198, List.forall_mem_cons.mpr ⟨px_k_get fk_X9_27, List.forall_mem_cons.mpr ⟨px_k_vir (by decide) mt_131 ⟨rfl, kw_555, kw_556, kw_557, ⟨_, _, rfl⟩, pd_131⟩, List.forall_mem_cons.mpr ⟨px_k_max kt_no1001 ⟨kw_558, kw_130, kw_131, kw_132⟩, List.forall_mem_cons.mpr ⟨px_k_get fk_X9_27, List.forall_mem_cons.mpr ⟨px_k_vir (by decide) mt_120 ⟨rfl, kw_443, kw_444, kw_445, ⟨_, _, rfl⟩, pd_120⟩, List.forall_mem_cons.mpr ⟨px_k_sta (by decide) mt_235 ⟨kw_559, kw_560, pd_235⟩, fun _ h => nomatch h⟩⟩⟩⟩⟩⟩⟩⟩⟩⟩⟩⟩⟩⟩⟩⟩⟩⟩⟩⟩⟩⟩⟩
set_option maxRecDepth 20000 in
theorem ok_X9_evening : px_okMt kt_mt kt_T vwCl kt_X M_X9_evening := px_mk (M := M_X9_evening) rfl (by decide) ⟨by decide, by decide⟩ (by decide) kw_405 kw_561 trivial de_X9_evening (by decide +kernel) lk_X9_evening
set_option maxRecDepth 20000 in
theorem de_X9_image : px_dec cX9_image (ls_X9_image ++ ll_X9_image) := by unfold px_dec; decide +kernel
set_option maxRecDepth 20000 in
set_option maxHeartbeats 4000000 in
theorem lk_X9_image : ∀ q ∈ ll_X9_image, px_okR kt_mt kt_T vwCl kt_X yX9_image cX9_image q.1 q.2 := List.forall_mem_cons.mpr ⟨px_k_get fk_X9_300, List.forall_mem_cons.mpr ⟨px_k_new (C := RX3) (T := TX3) (by decide) rfl kw_563, List.forall_mem_cons.mpr ⟨px_k_spe (by decide) mt_15 ⟨rfl, rfl, rfl, kw_564, pd_15, Or.inr ⟨"KettleChoir", List.mem_of_getElem? (i := 7) rfl⟩⟩, List.forall_mem_cons.mpr ⟨px_k_put pk_X9_300, List.forall_mem_cons.mpr ⟨px_k_get fk_X9_300, List.forall_mem_cons.mpr ⟨px_k_get fk_X9_23, List.forall_mem_cons.mpr ⟨px_k_get fk_X9_36, List.forall_mem_cons.mpr ⟨px_k_get fk_X9_43, List.forall_mem_cons.mpr ⟨px_k_get fk_X9_30, List.forall_mem_cons.mpr ⟨px_k_vir (by decide) mt_16 ⟨rfl, kw_565, kw_566, kw_567, ⟨_, _, rfl⟩, pd_16⟩, List.forall_mem_cons.mpr ⟨px_k_put pk_X9_102, fun _ h => nomatch h⟩⟩⟩⟩⟩⟩⟩⟩⟩⟩⟩
set_option maxRecDepth 20000 in
theorem ok_X9_image : px_okMt kt_mt kt_T vwCl kt_X M_X9_image := px_mk (M := M_X9_image) rfl (by decide) ⟨by decide, by decide⟩ (by decide) kw_405 kw_568 trivial de_X9_image (by decide +kernel) lk_X9_image
set_option maxRecDepth 20000 in
theorem de_X9_restore : px_dec cX9_restore (ls_X9_restore ++ ll_X9_restore) := by unfold px_dec; decide +kernel
set_option maxRecDepth 20000 in
set_option maxHeartbeats 4000000 in
theorem lk_X9_restore : ∀ q ∈ ll_X9_restore, px_okR kt_mt kt_T vwCl kt_X yX9_restore cX9_restore q.1 q.2 := List.forall_mem_cons.mpr ⟨px_k_get fk_X9_102, List.forall_mem_cons.mpr ⟨px_k_get fk_X9_300, List.forall_mem_cons.mpr ⟨px_k_get fk_X9_300, List.forall_mem_cons.mpr ⟨px_k_get fk_X9_23, List.forall_mem_cons.mpr ⟨px_k_get fk_X9_36, List.forall_mem_cons.mpr ⟨px_k_get fk_X9_43, List.forall_mem_cons.mpr ⟨px_k_get fk_X9_30, List.forall_mem_cons.mpr ⟨px_k_vir (by decide) mt_17 ⟨rfl, kw_569, kw_570, kw_571, ⟨_, _, rfl⟩, pd_17⟩, List.forall_mem_cons.mpr ⟨px_k_vir (by decide) mt_117 ⟨rfl, kw_431, kw_432, kw_433, ⟨_, _, rfl⟩, pd_117⟩, fun _ h => nomatch h⟩⟩⟩⟩⟩⟩⟩⟩⟩
set_option maxRecDepth 20000 in
theorem ok_X9_restore : px_okMt kt_mt kt_T vwCl kt_X M_X9_restore := px_mk (M := M_X9_restore) rfl (by decide) ⟨by decide, by decide⟩ (by decide) kw_405 kw_572 trivial de_X9_restore (by decide +kernel) lk_X9_restore
set_option maxRecDepth 20000 in
theorem de_X9_needKettle : px_dec cX9_needKettle (ls_X9_needKettle ++ ll_X9_needKettle) := by unfold px_dec; decide +kernel
set_option maxRecDepth 20000 in
set_option maxHeartbeats 4000000 in
theorem lk_X9_needKettle : ∀ q ∈ ll_X9_needKettle, px_okR kt_mt kt_T vwCl kt_X yX9_needKettle cX9_needKettle q.1 q.2 := List.forall_mem_cons.mpr ⟨px_k_get fk_X9_19, List.forall_mem_cons.mpr ⟨px_k_get fk_X9_112, List.forall_mem_cons.mpr ⟨px_k_thr (by decide) (fun _ => ⟨314, 143, 15, 13, 3, "no such kettle", kt_thn, prog_29_method_4_code, rfl, by decide, kt_f901, kt_fn, by decide, kt_x901, kw_454, kw_455, rfl, kt_g901_X9_143, kt_b901_X9_143, kt_o901_X9_143_139, by decide +kernel, Or.inr ⟨by decide +kernel, rfl⟩, by decide +kernel, by decide +kernel⟩), fun _ h => nomatch h⟩⟩⟩
set_option maxRecDepth 20000 in
theorem ok_X9_needKettle : px_okMt kt_mt kt_T vwCl kt_X M_X9_needKettle := px_mk (M := M_X9_needKettle) rfl (by decide) ⟨by decide, by decide⟩ (by decide) kw_405 kw_573 trivial de_X9_needKettle (by decide +kernel) lk_X9_needKettle
set_option maxRecDepth 20000 in
theorem de_X9_needStove : px_dec cX9_needStove (ls_X9_needStove ++ ll_X9_needStove) := by unfold px_dec; decide +kernel
set_option maxRecDepth 20000 in
set_option maxHeartbeats 4000000 in
theorem lk_X9_needStove : ∀ q ∈ ll_X9_needStove, px_okR kt_mt kt_T vwCl kt_X yX9_needStove cX9_needStove q.1 q.2 := List.forall_mem_cons.mpr ⟨px_k_get fk_X9_19, List.forall_mem_cons.mpr ⟨px_k_get fk_X9_115, List.forall_mem_cons.mpr ⟨px_k_thr (by decide) (fun _ => ⟨316, 143, 16, 13, 3, "no such stove", kt_thn, prog_29_method_4_code, rfl, by decide, kt_f901, kt_fn, by decide, kt_x901, kw_454, kw_455, rfl, kt_g901_X9_143, kt_b901_X9_143, kt_o901_X9_143_139, by decide +kernel, Or.inr ⟨by decide +kernel, rfl⟩, by decide +kernel, by decide +kernel⟩), fun _ h => nomatch h⟩⟩⟩
set_option maxRecDepth 20000 in
theorem ok_X9_needStove : px_okMt kt_mt kt_T vwCl kt_X M_X9_needStove := px_mk (M := M_X9_needStove) rfl (by decide) ⟨by decide, by decide⟩ (by decide) kw_405 kw_574 trivial de_X9_needStove (by decide +kernel) lk_X9_needStove
set_option maxRecDepth 20000 in
theorem de_X9_needDish : px_dec cX9_needDish (ls_X9_needDish ++ ll_X9_needDish) := by unfold px_dec; decide +kernel
set_option maxRecDepth 20000 in
set_option maxHeartbeats 4000000 in
theorem lk_X9_needDish : ∀ q ∈ ll_X9_needDish, px_okR kt_mt kt_T vwCl kt_X yX9_needDish cX9_needDish q.1 q.2 := List.forall_mem_cons.mpr ⟨px_k_get fk_X9_19, List.forall_mem_cons.mpr ⟨px_k_get fk_X9_118, List.forall_mem_cons.mpr ⟨px_k_thr (by decide) (fun _ => ⟨318, 143, 17, 13, 3, "no such dish", kt_thn, prog_29_method_4_code, rfl, by decide, kt_f901, kt_fn, by decide, kt_x901, kw_454, kw_455, rfl, kt_g901_X9_143, kt_b901_X9_143, kt_o901_X9_143_139, by decide +kernel, Or.inr ⟨by decide +kernel, rfl⟩, by decide +kernel, by decide +kernel⟩), fun _ h => nomatch h⟩⟩⟩
set_option maxRecDepth 20000 in
theorem ok_X9_needDish : px_okMt kt_mt kt_T vwCl kt_X M_X9_needDish := px_mk (M := M_X9_needDish) rfl (by decide) ⟨by decide, by decide⟩ (by decide) kw_405 kw_575 trivial de_X9_needDish (by decide +kernel) lk_X9_needDish
set_option maxRecDepth 20000 in
theorem de_X9_needFarMinutes : px_dec cX9_needFarMinutes (ls_X9_needFarMinutes ++ ll_X9_needFarMinutes) := by unfold px_dec; decide +kernel
set_option maxRecDepth 20000 in
set_option maxHeartbeats 4000000 in
theorem lk_X9_needFarMinutes : ∀ q ∈ ll_X9_needFarMinutes, px_okR kt_mt kt_T vwCl kt_X yX9_needFarMinutes cX9_needFarMinutes q.1 q.2 := List.forall_mem_cons.mpr ⟨px_k_thr (by decide) (fun _ => ⟨320, 80, 18, 7, 3, "not 1 to 120 minutes", kt_thn, prog_17_method_2_code, rfl, by decide, kt_f900, kt_fn, by decide, kt_x900, kw_412, kw_413, rfl, kt_g900_X9_80, kt_b900_X9_80, kt_o900_X9_80_76, by decide +kernel, Or.inr ⟨by decide +kernel, rfl⟩, by decide +kernel, by decide +kernel⟩), fun _ h => nomatch h⟩
set_option maxRecDepth 20000 in
theorem ok_X9_needFarMinutes : px_okMt kt_mt kt_T vwCl kt_X M_X9_needFarMinutes := px_mk (M := M_X9_needFarMinutes) rfl (by decide) ⟨by decide, by decide⟩ (by decide) kw_405 kw_576 trivial de_X9_needFarMinutes (by decide +kernel) lk_X9_needFarMinutes
set_option maxRecDepth 20000 in
theorem de_X9_beginAct : px_dec cX9_beginAct (ls_X9_beginAct ++ ll_X9_beginAct) := by unfold px_dec; decide +kernel
set_option maxRecDepth 20000 in
set_option maxHeartbeats 4000000 in
theorem lk_X9_beginAct : ∀ q ∈ ll_X9_beginAct, px_okR kt_mt kt_T vwCl kt_X yX9_beginAct cX9_beginAct q.1 q.2 := List.forall_mem_cons.mpr ⟨px_k_get fk_X9_36, List.forall_mem_cons.mpr ⟨px_k_get fk_X9_23, List.forall_mem_cons.mpr ⟨px_k_vir (by decide) mt_2 ⟨rfl, kw_577, kw_578, kw_579, ⟨_, _, rfl⟩, pd_2⟩, List.forall_mem_cons.mpr ⟨px_k_vir (by decide) mt_117 ⟨rfl, kw_431, kw_432, kw_433, ⟨_, _, rfl⟩, pd_117⟩, fun _ h => nomatch h⟩⟩⟩⟩
set_option maxRecDepth 20000 in
theorem ok_X9_beginAct : px_okMt kt_mt kt_T vwCl kt_X M_X9_beginAct := px_mk (M := M_X9_beginAct) rfl (by decide) ⟨by decide, by decide⟩ (by decide) kw_405 kw_580 trivial de_X9_beginAct (by decide +kernel) lk_X9_beginAct
set_option maxRecDepth 20000 in
theorem de_X9_changed : px_dec cX9_changed (ls_X9_changed ++ ll_X9_changed) := by unfold px_dec; decide +kernel
set_option maxRecDepth 20000 in
set_option maxHeartbeats 4000000 in
theorem lk_X9_changed : ∀ q ∈ ll_X9_changed, px_okR kt_mt kt_T vwCl kt_X yX9_changed cX9_changed q.1 q.2 := List.forall_mem_cons.mpr ⟨px_k_get fk_X9_57, List.forall_mem_cons.mpr ⟨px_k_put pk_X9_325, List.forall_mem_cons.mpr ⟨px_k_get fk_X9_50, List.forall_mem_cons.mpr ⟨px_k_put pk_X9_328, fun _ h => nomatch h⟩⟩⟩⟩
set_option maxRecDepth 20000 in
theorem ok_X9_changed : px_okMt kt_mt kt_T vwCl kt_X M_X9_changed := px_mk (M := M_X9_changed) rfl (by decide) ⟨by decide, by decide⟩ (by decide) kw_405 kw_583 trivial de_X9_changed (by decide +kernel) lk_X9_changed
set_option maxRecDepth 20000 in
theorem de_X9_beginTrial : px_dec cX9_beginTrial (ls_X9_beginTrial ++ ll_X9_beginTrial) := by unfold px_dec; decide +kernel
set_option maxRecDepth 20000 in
set_option maxHeartbeats 4000000 in
theorem lk_X9_beginTrial : ∀ q ∈ ll_X9_beginTrial, px_okR kt_mt kt_T vwCl kt_X yX9_beginTrial cX9_beginTrial q.1 q.2 := List.forall_mem_cons.mpr ⟨px_k_get fk_X9_23, List.forall_mem_cons.mpr ⟨px_k_get fk_X9_27, List.forall_mem_cons.mpr ⟨px_k_cpy kt_no1004 ⟨kw_584, kw_11, kw_12, kw_13⟩, fun _ h => nomatch h⟩⟩⟩
set_option maxRecDepth 20000 in
theorem ok_X9_beginTrial : px_okMt kt_mt kt_T vwCl kt_X M_X9_beginTrial := px_mk (M := M_X9_beginTrial) rfl (by decide) ⟨by decide, by decide⟩ (by decide) kw_405 kw_585 trivial de_X9_beginTrial (by decide +kernel) lk_X9_beginTrial
set_option maxRecDepth 20000 in
theorem de_X9_singing : px_dec cX9_singing (ls_X9_singing ++ ll_X9_singing) := by unfold px_dec; decide +kernel
set_option maxRecDepth 20000 in
set_option maxHeartbeats 4000000 in
theorem lk_X9_singing : ∀ q ∈ ll_X9_singing, px_okR kt_mt kt_T vwCl kt_X yX9_singing cX9_singing q.1 q.2 := List.forall_mem_cons.mpr ⟨px_k_get fk_X9_19, List.forall_mem_cons.mpr ⟨px_k_get fk_X9_112, List.forall_mem_cons.mpr ⟨px_k_get fk_X9_23, fun _ h => nomatch h⟩⟩⟩
set_option maxRecDepth 20000 in
theorem ok_X9_singing : px_okMt kt_mt kt_T vwCl kt_X M_X9_singing := px_mk (M := M_X9_singing) rfl (by decide) ⟨by decide, by decide⟩ (by decide) kw_405 kw_586 trivial de_X9_singing (by decide +kernel) lk_X9_singing
