/-! ===== printed by wip/whole/gen.py: the methods of the tables are right ===== -/
set_option maxRecDepth 20000 in
theorem de_X9_readyDishes : px_dec cX9_readyDishes (ls_X9_readyDishes ++ ll_X9_readyDishes) := by unfold px_dec; decide +kernel
set_option maxRecDepth 20000 in
set_option maxHeartbeats 4000000 in
theorem lk_X9_readyDishes : ∀ q ∈ ll_X9_readyDishes, px_okR kt_mt kt_T vwCl kt_X yX9_readyDishes cX9_readyDishes q.1 q.2 := List.forall_mem_cons.mpr ⟨px_k_get fk_X9_19, List.forall_mem_cons.mpr ⟨px_k_get fk_X9_118, fun _ h => nomatch h⟩⟩
set_option maxRecDepth 20000 in
theorem ok_X9_readyDishes : px_okMt kt_mt kt_T vwCl kt_X M_X9_readyDishes := px_mk (M := M_X9_readyDishes) rfl (by decide) ⟨by decide, by decide⟩ (by decide) kw_405 kw_587 trivial de_X9_readyDishes (by decide +kernel) lk_X9_readyDishes
set_option maxRecDepth 20000 in
theorem de_X9_lids : px_dec cX9_lids (ls_X9_lids ++ ll_X9_lids) := by unfold px_dec; decide +kernel
set_option maxRecDepth 20000 in
set_option maxHeartbeats 4000000 in
theorem lk_X9_lids : ∀ q ∈ ll_X9_lids, px_okR kt_mt kt_T vwCl kt_X yX9_lids cX9_lids q.1 q.2 := List.forall_mem_cons.mpr ⟨px_k_get fk_X9_19, List.forall_mem_cons.mpr ⟨px_k_get fk_X9_112, List.forall_mem_cons.mpr ⟨px_k_get fk_X9_23, fun _ h => nomatch h⟩⟩⟩
set_option maxRecDepth 20000 in
theorem ok_X9_lids : px_okMt kt_mt kt_T vwCl kt_X M_X9_lids := px_mk (M := M_X9_lids) rfl (by decide) ⟨by decide, by decide⟩ (by decide) kw_405 kw_588 trivial de_X9_lids (by decide +kernel) lk_X9_lids
set_option maxRecDepth 20000 in
theorem de_X9_thirds : px_dec cX9_thirds (ls_X9_thirds ++ ll_X9_thirds) := by unfold px_dec; decide +kernel
set_option maxRecDepth 20000 in
set_option maxHeartbeats 4000000 in
theorem lk_X9_thirds : ∀ q ∈ ll_X9_thirds, px_okR kt_mt kt_T vwCl kt_X yX9_thirds cX9_thirds q.1 q.2 := List.forall_mem_cons.mpr ⟨px_k_get fk_X9_19, List.forall_mem_cons.mpr ⟨px_k_get fk_X9_112, List.forall_mem_cons.mpr ⟨px_k_vir (by decide) mt_123 ⟨rfl, kw_589, kw_590, kw_591, ⟨_, _, rfl⟩, pd_123⟩, fun _ h => nomatch h⟩⟩⟩
set_option maxRecDepth 20000 in
theorem ok_X9_thirds : px_okMt kt_mt kt_T vwCl kt_X M_X9_thirds := px_mk (M := M_X9_thirds) rfl (by decide) ⟨by decide, by decide⟩ (by decide) kw_405 kw_592 trivial de_X9_thirds (by decide +kernel) lk_X9_thirds
set_option maxRecDepth 20000 in
theorem de_X9_apart : px_dec cX9_apart (ls_X9_apart ++ ll_X9_apart) := by unfold px_dec; decide +kernel
set_option maxRecDepth 20000 in
set_option maxHeartbeats 4000000 in
theorem lk_X9_apart : ∀ q ∈ ll_X9_apart, px_okR kt_mt kt_T vwCl kt_X yX9_apart cX9_apart q.1 q.2 := List.forall_mem_cons.mpr ⟨px_k_get fk_X9_23, List.forall_mem_cons.mpr ⟨px_k_get fk_X9_23, List.forall_mem_cons.mpr ⟨px_k_abs kt_no1003 ⟨kw_523, kw_358, kw_131, kw_359⟩, fun _ h => nomatch h⟩⟩⟩
set_option maxRecDepth 20000 in
theorem ok_X9_apart : px_okMt kt_mt kt_T vwCl kt_X M_X9_apart := px_mk (M := M_X9_apart) rfl (by decide) ⟨by decide, by decide⟩ (by decide) kw_405 kw_593 trivial de_X9_apart (by decide +kernel) lk_X9_apart
set_option maxRecDepth 20000 in
theorem de_X9_burn : px_dec cX9_burn (ls_X9_burn ++ ll_X9_burn) := by unfold px_dec; decide +kernel
set_option maxRecDepth 20000 in
set_option maxHeartbeats 4000000 in
theorem lk_X9_burn : ∀ q ∈ ll_X9_burn, px_okR kt_mt kt_T vwCl kt_X yX9_burn cX9_burn q.1 q.2 := List.forall_mem_cons.mpr ⟨px_k_get fk_X9_19, List.forall_mem_cons.mpr ⟨px_k_get fk_X9_27, List.forall_mem_cons.mpr ⟨px_k_vir (by decide) mt_24 ⟨rfl, kw_517, kw_114, kw_115, ⟨_, _, rfl⟩, pd_24⟩, List.forall_mem_cons.mpr ⟨px_k_get fk_X9_19, List.forall_mem_cons.mpr ⟨px_k_get fk_X9_27, List.forall_mem_cons.mpr ⟨px_k_vir (by decide) mt_26 ⟨rfl, kw_518, kw_140, kw_141, ⟨_, _, rfl⟩, pd_26⟩, List.forall_mem_cons.mpr ⟨px_k_get fk_X9_27, List.forall_mem_cons.mpr ⟨px_k_get fk_X9_27, List.forall_mem_cons.mpr ⟨px_k_get fk_X9_19, List.forall_mem_cons.mpr ⟨px_k_get fk_X9_27, List.forall_mem_cons.mpr ⟨px_k_vir (by decide) mt_31 ⟨rfl, kw_594, kw_123, kw_124, ⟨_, _, rfl⟩, pd_31⟩, fun _ h => nomatch h⟩⟩⟩⟩⟩⟩⟩⟩⟩⟩⟩
set_option maxRecDepth 20000 in
theorem ok_X9_burn : px_okMt kt_mt kt_T vwCl kt_X M_X9_burn := px_mk (M := M_X9_burn) rfl (by decide) ⟨by decide, by decide⟩ (by decide) kw_405 kw_595 trivial de_X9_burn (by decide +kernel) lk_X9_burn
set_option maxRecDepth 20000 in
theorem de_X9_isBest : px_dec cX9_isBest (ls_X9_isBest ++ ll_X9_isBest) := by unfold px_dec; decide +kernel
set_option maxRecDepth 20000 in
set_option maxHeartbeats 4000000 in
theorem lk_X9_isBest : ∀ q ∈ ll_X9_isBest, px_okR kt_mt kt_T vwCl kt_X yX9_isBest cX9_isBest q.1 q.2 := List.forall_mem_cons.mpr ⟨px_k_vir (by decide) mt_126 ⟨rfl, kw_596, kw_597, kw_598, ⟨_, _, rfl⟩, pd_126⟩, List.forall_mem_cons.mpr ⟨px_k_vir (by decide) mt_126 ⟨rfl, kw_596, kw_597, kw_598, ⟨_, _, rfl⟩, pd_126⟩, fun _ h => nomatch h⟩⟩
set_option maxRecDepth 20000 in
theorem ok_X9_isBest : px_okMt kt_mt kt_T vwCl kt_X M_X9_isBest := px_mk (M := M_X9_isBest) rfl (by decide) ⟨by decide, by decide⟩ (by decide) kw_405 kw_599 trivial de_X9_isBest (by decide +kernel) lk_X9_isBest
set_option maxRecDepth 20000 in
theorem de_X9_gain : px_dec cX9_gain (ls_X9_gain ++ ll_X9_gain) := by unfold px_dec; decide +kernel
set_option maxRecDepth 20000 in
set_option maxHeartbeats 4000000 in
theorem lk_X9_gain : ∀ q ∈ ll_X9_gain, px_okR kt_mt kt_T vwCl kt_X yX9_gain cX9_gain q.1 q.2 := List.forall_mem_cons.mpr ⟨px_k_get fk_X9_19, List.forall_mem_cons.mpr ⟨px_k_get fk_X9_112, List.forall_mem_cons.mpr ⟨px_k_vir (by decide) mt_123 ⟨rfl, kw_589, kw_590, kw_591, ⟨_, _, rfl⟩, pd_123⟩, fun _ h => nomatch h⟩⟩⟩
set_option maxRecDepth 20000 in
theorem ok_X9_gain : px_okMt kt_mt kt_T vwCl kt_X M_X9_gain := px_mk (M := M_X9_gain) rfl (by decide) ⟨by decide, by decide⟩ (by decide) kw_405 kw_600 trivial de_X9_gain (by decide +kernel) lk_X9_gain
set_option maxRecDepth 20000 in
theorem de_X9_nextSeed : px_dec cX9_nextSeed (ls_X9_nextSeed ++ ll_X9_nextSeed) := by unfold px_dec; decide +kernel
set_option maxRecDepth 20000 in
set_option maxHeartbeats 4000000 in
theorem lk_X9_nextSeed : ∀ q ∈ ll_X9_nextSeed, px_okR kt_mt kt_T vwCl kt_X yX9_nextSeed cX9_nextSeed q.1 q.2 := List.forall_mem_cons.mpr ⟨px_k_ldcw kw_601, fun _ h => nomatch h⟩
set_option maxRecDepth 20000 in
theorem ok_X9_nextSeed : px_okMt kt_mt kt_T vwCl kt_X M_X9_nextSeed := px_mk (M := M_X9_nextSeed) rfl (by decide) ⟨by decide, by decide⟩ (by decide) kw_405 kw_602 trivial de_X9_nextSeed (by decide +kernel) lk_X9_nextSeed
set_option maxRecDepth 20000 in
theorem de_X9_draw : px_dec cX9_draw (ls_X9_draw ++ ll_X9_draw) := by unfold px_dec; decide +kernel
set_option maxRecDepth 20000 in
set_option maxHeartbeats 4000000 in
theorem lk_X9_draw : ∀ q ∈ ll_X9_draw, px_okR kt_mt kt_T vwCl kt_X yX9_draw cX9_draw q.1 q.2 := fun _ h => nomatch h
set_option maxRecDepth 20000 in
theorem ok_X9_draw : px_okMt kt_mt kt_T vwCl kt_X M_X9_draw := px_mk (M := M_X9_draw) rfl (by decide) ⟨by decide, by decide⟩ (by decide) kw_405 kw_603 trivial de_X9_draw (by decide +kernel) lk_X9_draw
set_option maxRecDepth 20000 in
theorem de_X9_meddle : px_dec cX9_meddle (ls_X9_meddle ++ ll_X9_meddle) := by unfold px_dec; decide +kernel
set_option maxRecDepth 20000 in
set_option maxHeartbeats 4000000 in
theorem lk_X9_meddle : ∀ q ∈ ll_X9_meddle, px_okR kt_mt kt_T vwCl kt_X yX9_meddle cX9_meddle q.1 q.2 := List.forall_mem_cons.mpr ⟨px_k_get fk_X9_27, List.forall_mem_cons.mpr ⟨px_k_get fk_X9_27, List.forall_mem_cons.mpr ⟨px_k_get fk_X9_27, List.forall_mem_cons.mpr ⟨px_k_vir (by decide) mt_130 ⟨rfl, kw_604, kw_605, kw_606, ⟨_, _, rfl⟩, pd_130⟩, fun _ h => nomatch h⟩⟩⟩⟩
set_option maxRecDepth 20000 in
theorem ok_X9_meddle : px_okMt kt_mt kt_T vwCl kt_X M_X9_meddle := px_mk (M := M_X9_meddle) rfl (by decide) ⟨by decide, by decide⟩ (by decide) kw_405 kw_607 trivial de_X9_meddle (by decide +kernel) lk_X9_meddle
set_option maxRecDepth 20000 in
theorem de_X9_freeStove : px_dec cX9_freeStove (ls_X9_freeStove ++ ll_X9_freeStove) := by unfold px_dec; decide +kernel
set_option maxRecDepth 20000 in
set_option maxHeartbeats 4000000 in
theorem lk_X9_freeStove : ∀ q ∈ ll_X9_freeStove, px_okR kt_mt kt_T vwCl kt_X yX9_freeStove cX9_freeStove q.1 q.2 := List.forall_mem_cons.mpr ⟨px_k_get fk_X9_19, List.forall_mem_cons.mpr ⟨px_k_get fk_X9_115, List.forall_mem_cons.mpr ⟨px_k_get fk_X9_19, List.forall_mem_cons.mpr ⟨px_k_get fk_X9_27, List.forall_mem_cons.mpr ⟨px_k_vir (by decide) mt_22 ⟨rfl, kw_468, kw_469, kw_470, ⟨_, _, rfl⟩, pd_22⟩, fun _ h => nomatch h⟩⟩⟩⟩⟩
set_option maxRecDepth 20000 in
theorem ok_X9_freeStove : px_okMt kt_mt kt_T vwCl kt_X M_X9_freeStove := px_mk (M := M_X9_freeStove) rfl (by decide) ⟨by decide, by decide⟩ (by decide) kw_405 kw_608 trivial de_X9_freeStove (by decide +kernel) lk_X9_freeStove
set_option maxRecDepth 20000 in
theorem de_X9_highestNote : px_dec cX9_highestNote (ls_X9_highestNote ++ ll_X9_highestNote) := by unfold px_dec; decide +kernel
set_option maxRecDepth 20000 in
set_option maxHeartbeats 4000000 in
theorem lk_X9_highestNote : ∀ q ∈ ll_X9_highestNote, px_okR kt_mt kt_T vwCl kt_X yX9_highestNote cX9_highestNote q.1 q.2 := List.forall_mem_cons.mpr ⟨px_k_get fk_X9_19, List.forall_mem_cons.mpr ⟨px_k_get fk_X9_112, List.forall_mem_cons.mpr ⟨px_k_max kt_no1001 ⟨kw_558, kw_130, kw_131, kw_132⟩, fun _ h => nomatch h⟩⟩⟩
set_option maxRecDepth 20000 in
theorem ok_X9_highestNote : px_okMt kt_mt kt_T vwCl kt_X M_X9_highestNote := px_mk (M := M_X9_highestNote) rfl (by decide) ⟨by decide, by decide⟩ (by decide) kw_405 kw_609 trivial de_X9_highestNote (by decide +kernel) lk_X9_highestNote
set_option maxRecDepth 20000 in
theorem de_X10_init : px_dec cX10_init (ls_X10_init ++ ll_X10_init) := by unfold px_dec; decide +kernel
set_option maxRecDepth 20000 in
set_option maxHeartbeats 4000000 in
theorem lk_X10_init : ∀ q ∈ ll_X10_init, px_okR kt_mt kt_T vwCl kt_X yX10_init cX10_init q.1 q.2 := List.forall_mem_cons.mpr ⟨px_k_obj kt_no1000 ⟨kw_610, kw_1, kw_2⟩, List.forall_mem_cons.mpr ⟨px_k_arq kw_611, List.forall_mem_cons.mpr ⟨px_k_ldcs (k := 36) (by decide) (rfl : kt_X.1[36]? = some (_, _, "tin")), List.forall_mem_cons.mpr ⟨px_k_ldcs (k := 37) (by decide) (rfl : kt_X.1[37]? = some (_, _, "copper")), List.forall_mem_cons.mpr ⟨px_k_ldcs (k := 38) (by decide) (rfl : kt_X.1[38]? = some (_, _, "iron")), List.forall_mem_cons.mpr ⟨px_k_ldcs (k := 39) (by decide) (rfl : kt_X.1[39]? = some (_, _, "enamel")), List.forall_mem_cons.mpr ⟨px_k_put pk_X10_19_X10_init, List.forall_mem_cons.mpr ⟨px_k_arq kw_611, List.forall_mem_cons.mpr ⟨px_k_ldcs (k := 40) (by decide) (rfl : kt_X.1[40]? = some (_, _, "note")), List.forall_mem_cons.mpr ⟨px_k_ldcs (k := 41) (by decide) (rfl : kt_X.1[41]? = some (_, _, "sung")), List.forall_mem_cons.mpr ⟨px_k_ldcs (k := 42) (by decide) (rfl : kt_X.1[42]? = some (_, _, "third")), List.forall_mem_cons.mpr ⟨px_k_ldcs (k := 43) (by decide) (rfl : kt_X.1[43]? = some (_, _, "heat")), List.forall_mem_cons.mpr ⟨px_k_ldcs (k := 44) (by decide) (rfl : kt_X.1[44]? = some (_, _, "fill")), List.forall_mem_cons.mpr ⟨px_k_ldcs (k := 45) (by decide) (rfl : kt_X.1[45]? = some (_, _, "chalk")), List.forall_mem_cons.mpr ⟨px_k_ldcs (k := 46) (by decide) (rfl : kt_X.1[46]? = some (_, _, "singers")), List.forall_mem_cons.mpr ⟨px_k_put pk_X10_37_X10_init, List.forall_mem_cons.mpr ⟨px_k_arr (Or.inl ⟨rfl, rfl, kw_3⟩), List.forall_mem_cons.mpr ⟨px_k_put pk_X10_40_X10_init, List.forall_mem_cons.mpr ⟨px_k_arr (Or.inl ⟨rfl, rfl, kw_3⟩), List.forall_mem_cons.mpr ⟨px_k_put pk_X10_44_X10_init, List.forall_mem_cons.mpr ⟨px_k_arr (Or.inl ⟨rfl, rfl, kw_3⟩), List.forall_mem_cons.mpr ⟨px_k_put pk_X10_47_X10_init, List.forall_mem_cons.mpr ⟨px_k_arr (Or.inl ⟨rfl, rfl, kw_3⟩), List.forall_mem_cons.mpr ⟨px_k_put pk_X10_50_X10_init, List.forall_mem_cons.mpr ⟨px_k_arr (Or.inl ⟨rfl, rfl, kw_3⟩), List.forall_mem_cons.mpr ⟨px_k_put pk_X10_53_X10_init, List.forall_mem_cons.mpr ⟨px_k_arr (Or.inl ⟨rfl, rfl, kw_3⟩), List.forall_mem_cons.mpr ⟨px_k_put pk_X10_56_X10_init, List.forall_mem_cons.mpr ⟨px_k_arr (Or.inl ⟨rfl, rfl, kw_3⟩), List.forall_mem_cons.mpr ⟨px_k_put pk_X10_59_X10_init, List.forall_mem_cons.mpr ⟨px_k_arr (Or.inl ⟨rfl, rfl, kw_3⟩), List.forall_mem_cons.mpr ⟨px_k_put pk_X10_62_X10_init, List.forall_mem_cons.mpr ⟨px_k_arr (Or.inl ⟨rfl, rfl, kw_3⟩), List.forall_mem_cons.mpr ⟨px_k_put pk_X10_65_X10_init, List.forall_mem_cons.mpr ⟨px_k_arr (Or.inl ⟨rfl, rfl, kw_3⟩), List.forall_mem_cons.mpr ⟨px_k_put pk_X10_68_X10_init, List.forall_mem_cons.mpr ⟨px_k_arr (Or.inl ⟨rfl, rfl, kw_3⟩), List.forall_mem_cons.mpr ⟨px_k_put pk_X10_71_X10_init, List.forall_mem_cons.mpr ⟨px_k_arr (Or.inl ⟨rfl, rfl, kw_3⟩), List.forall_mem_cons.mpr ⟨px_k_put pk_X10_74_X10_init, List.forall_mem_cons.mpr ⟨px_k_put pk_X10_77, List.forall_mem_cons.mpr ⟨px_k_arr (Or.inl ⟨rfl, rfl, kw_3⟩), List.forall_mem_cons.mpr ⟨px_k_put pk_X10_81_X10_init, List.forall_mem_cons.mpr ⟨px_k_arr (Or.inl ⟨rfl, rfl, kw_3⟩), List.forall_mem_cons.mpr ⟨px_k_put pk_X10_84_X10_init, List.forall_mem_cons.mpr ⟨px_k_arr (Or.inl ⟨rfl, rfl, kw_3⟩), List.forall_mem_cons.mpr ⟨px_k_put pk_X10_86_X10_init, List.forall_mem_cons.mpr ⟨px_k_arr (Or.inl ⟨rfl, rfl, kw_3⟩), List.forall_mem_cons.mpr ⟨px_k_put pk_X10_88_X10_init, List.forall_mem_cons.mpr ⟨px_k_arr (Or.inl ⟨rfl, rfl, kw_3⟩), List.forall_mem_cons.mpr ⟨px_k_put pk_X10_90_X10_init, List.forall_mem_cons.mpr ⟨px_k_arr (Or.inl ⟨rfl, rfl, kw_3⟩), List.forall_mem_cons.mpr ⟨px_k_put pk_X10_92_X10_init, List.forall_mem_cons.mpr ⟨px_k_arr (Or.inl ⟨rfl, rfl, kw_3⟩), List.forall_mem_cons.mpr ⟨px_k_put pk_X10_94_X10_init, List.forall_mem_cons.mpr ⟨px_k_arr (Or.inl ⟨rfl, rfl, kw_3⟩), List.forall_mem_cons.mpr ⟨px_k_put pk_X10_97_X10_init, List.forall_mem_cons.mpr ⟨px_k_arr (Or.inl ⟨rfl, rfl, kw_3⟩), List.forall_mem_cons.mpr ⟨px_k_put pk_X10_100_X10_init, List.forall_mem_cons.mpr ⟨px_k_arr (Or.inl ⟨rfl, rfl, kw_3⟩), List.forall_mem_cons.mpr ⟨px_k_put pk_X10_103_X10_init, List.forall_mem_cons.mpr ⟨px_k_arr (Or.inl ⟨rfl, rfl, kw_3⟩), List.forall_mem_cons.mpr ⟨px_k_put pk_X10_106_X10_init, List.forall_mem_cons.mpr ⟨px_k_arr (Or.inl ⟨rfl, rfl, kw_3⟩), List.forall_mem_cons.mpr ⟨px_k_put pk_X10_109_X10_init, List.forall_mem_cons.mpr ⟨px_k_arr (Or.inl ⟨rfl, rfl, kw_3⟩), List.forall_mem_cons.mpr ⟨px_k_put pk_X10_112_X10_init, List.forall_mem_cons.mpr ⟨px_k_arr (Or.inl ⟨rfl, rfl, kw_3⟩), List.forall_mem_cons.mpr ⟨px_k_put pk_X10_115_X10_init, List.forall_mem_cons.mpr ⟨px_k_arr (Or.inl ⟨rfl, rfl, kw_3⟩), List.forall_mem_cons.mpr ⟨px_k_put pk_X10_118_X10_init, List.forall_mem_cons.mpr ⟨px_k_arr (Or.inl ⟨rfl, rfl, kw_3⟩), List.forall_mem_cons.mpr ⟨px_k_put pk_X10_121_X10_init, List.forall_mem_cons.mpr ⟨px_k_arr (Or.inl ⟨rfl, rfl, kw_3⟩), List.forall_mem_cons.mpr ⟨px_k_put pk_X10_124_X10_init, List.forall_mem_cons.mpr ⟨px_k_arr (Or.inl ⟨rfl, rfl, kw_3⟩), List.forall_mem_cons.mpr ⟨px_k_put pk_X10_127_X10_init, List.forall_mem_cons.mpr ⟨px_k_arr (Or.inr (Or.inl ⟨rfl, rfl, kw_19⟩)), List.forall_mem_cons.mpr ⟨px_k_put pk_X10_130_X10_init, List.forall_mem_cons.mpr ⟨px_k_arr (Or.inl ⟨rfl, rfl, kw_3⟩), List.forall_mem_cons.mpr ⟨px_k_put pk_X10_134_X10_init, List.forall_mem_cons.mpr ⟨px_k_arr (Or.inl ⟨rfl, rfl, kw_3⟩), List.forall_mem_cons.mpr ⟨px_k_put pk_X10_137_X10_init, List.forall_mem_cons.mpr ⟨px_k_arr (Or.inl ⟨rfl, rfl, kw_3⟩), List.forall_mem_cons.mpr ⟨px_k_put pk_X10_140_X10_init, List.forall_mem_cons.mpr ⟨px_k_arr (Or.inl ⟨rfl, rfl, kw_3⟩), List.forall_mem_cons.mpr ⟨px_k_put pk_X10_143_X10_init, List.forall_mem_cons.mpr ⟨px_k_arr (Or.inl ⟨rfl, rfl, kw_3⟩), List.forall_mem_cons.mpr ⟨px_k_put pk_X10_146_X10_init, fun _ h => nomatch h⟩⟩⟩⟩⟩⟩⟩⟩⟩⟩⟩⟩⟩⟩⟩⟩⟩⟩⟩⟩⟩⟩⟩⟩⟩⟩⟩⟩⟩⟩⟩⟩⟩⟩⟩⟩⟩⟩⟩⟩⟩⟩⟩⟩⟩⟩⟩⟩⟩⟩⟩⟩⟩⟩⟩⟩⟩⟩⟩⟩⟩⟩⟩⟩⟩⟩⟩⟩⟩⟩⟩⟩⟩⟩⟩⟩⟩⟩⟩⟩⟩⟩⟩⟩⟩⟩⟩⟩⟩
set_option maxRecDepth 20000 in
theorem ok_X10_init : px_okMt kt_mt kt_T vwCl kt_X M_X10_init := px_mk (M := M_X10_init) rfl (by decide) ⟨by decide, by decide⟩ (by decide) kw_651 kw_652 trivial de_X10_init (by decide +kernel) lk_X10_init
set_option maxRecDepth 20000 in
theorem de_X10_thrown : px_dec cX10_thrown (ls_X10_thrown ++ ll_X10_thrown) := by unfold px_dec; decide +kernel
set_option maxRecDepth 20000 in
set_option maxHeartbeats 4000000 in
theorem lk_X10_thrown : ∀ q ∈ ll_X10_thrown, px_okR kt_mt kt_T vwCl kt_X yX10_thrown cX10_thrown q.1 q.2 := List.forall_mem_cons.mpr ⟨px_k_get fk_X10_149, fun _ h => nomatch h⟩
set_option maxRecDepth 20000 in
theorem ok_X10_thrown : px_okMt kt_mt kt_T vwCl kt_X M_X10_thrown := px_mk (M := M_X10_thrown) rfl (by decide) ⟨by decide, by decide⟩ (by decide) kw_651 kw_654 trivial de_X10_thrown (by decide +kernel) lk_X10_thrown
set_option maxRecDepth 20000 in
theorem de_X10_fail : px_dec cX10_fail (ls_X10_fail ++ ll_X10_fail) := by unfold px_dec; decide +kernel
set_option maxRecDepth 20000 in
set_option maxHeartbeats 4000000 in
theorem lk_X10_fail : ∀ q ∈ ll_X10_fail, px_okR kt_mt kt_T vwCl kt_X yX10_fail cX10_fail q.1 q.2 := List.forall_mem_cons.mpr ⟨px_k_put pk_X10_149, fun _ h => nomatch h⟩
set_option maxRecDepth 20000 in
theorem ok_X10_fail : px_okMt kt_mt kt_T vwCl kt_X M_X10_fail := px_mk (M := M_X10_fail) rfl (by decide) ⟨by decide, by decide⟩ (by decide) kw_651 kw_655 trivial de_X10_fail (by decide +kernel) lk_X10_fail
set_option maxRecDepth 20000 in
theorem de_X10_failing : px_dec cX10_failing (ls_X10_failing ++ ll_X10_failing) := by unfold px_dec; decide +kernel
set_option maxRecDepth 20000 in
set_option maxHeartbeats 4000000 in
theorem lk_X10_failing : ∀ q ∈ ll_X10_failing, px_okR kt_mt kt_T vwCl kt_X yX10_failing cX10_failing q.1 q.2 := List.forall_mem_cons.mpr ⟨px_k_put pk_X10_149, fun _ h => nomatch h⟩
set_option maxRecDepth 20000 in
theorem ok_X10_failing : px_okMt kt_mt kt_T vwCl kt_X M_X10_failing := px_mk (M := M_X10_failing) rfl (by decide) ⟨by decide, by decide⟩ (by decide) kw_651 kw_656 trivial de_X10_failing (by decide +kernel) lk_X10_failing
set_option maxRecDepth 20000 in
theorem de_X10_isIn : px_dec cX10_isIn (ls_X10_isIn ++ ll_X10_isIn) := by unfold px_dec; decide +kernel
set_option maxRecDepth 20000 in
set_option maxHeartbeats 4000000 in
theorem lk_X10_isIn : ∀ q ∈ ll_X10_isIn, px_okR kt_mt kt_T vwCl kt_X yX10_isIn cX10_isIn q.1 q.2 := fun _ h => nomatch h
set_option maxRecDepth 20000 in
theorem ok_X10_isIn : px_okMt kt_mt kt_T vwCl kt_X M_X10_isIn := px_mk (M := M_X10_isIn) rfl (by decide) ⟨by decide, by decide⟩ (by decide) kw_651 kw_657 trivial de_X10_isIn (by decide +kernel) lk_X10_isIn
set_option maxRecDepth 20000 in
theorem de_X10_isOf : px_dec cX10_isOf (ls_X10_isOf ++ ll_X10_isOf) := by unfold px_dec; decide +kernel
set_option maxRecDepth 20000 in
set_option maxHeartbeats 4000000 in
theorem lk_X10_isOf : ∀ q ∈ ll_X10_isOf, px_okR kt_mt kt_T vwCl kt_X yX10_isOf cX10_isOf q.1 q.2 := fun _ h => nomatch h
set_option maxRecDepth 20000 in
theorem ok_X10_isOf : px_okMt kt_mt kt_T vwCl kt_X M_X10_isOf := px_mk (M := M_X10_isOf) rfl (by decide) ⟨by decide, by decide⟩ (by decide) kw_651 kw_658 trivial de_X10_isOf (by decide +kernel) lk_X10_isOf
set_option maxRecDepth 20000 in
theorem de_X10_isKettle : px_dec cX10_isKettle (ls_X10_isKettle ++ ll_X10_isKettle) := by unfold px_dec; decide +kernel
set_option maxRecDepth 20000 in
set_option maxHeartbeats 4000000 in
theorem lk_X10_isKettle : ∀ q ∈ ll_X10_isKettle, px_okR kt_mt kt_T vwCl kt_X yX10_isKettle cX10_isKettle q.1 q.2 := List.forall_mem_cons.mpr ⟨px_k_get fk_X10_40, List.forall_mem_cons.mpr ⟨px_k_sta (by decide) mt_136 ⟨kw_659, kw_660, pd_136⟩, fun _ h => nomatch h⟩⟩
set_option maxRecDepth 20000 in
theorem ok_X10_isKettle : px_okMt kt_mt kt_T vwCl kt_X M_X10_isKettle := px_mk (M := M_X10_isKettle) rfl (by decide) ⟨by decide, by decide⟩ (by decide) kw_651 kw_661 trivial de_X10_isKettle (by decide +kernel) lk_X10_isKettle
set_option maxRecDepth 20000 in
theorem de_X10_isStove : px_dec cX10_isStove (ls_X10_isStove ++ ll_X10_isStove) := by unfold px_dec; decide +kernel
set_option maxRecDepth 20000 in
set_option maxHeartbeats 4000000 in
theorem lk_X10_isStove : ∀ q ∈ ll_X10_isStove, px_okR kt_mt kt_T vwCl kt_X yX10_isStove cX10_isStove q.1 q.2 := List.forall_mem_cons.mpr ⟨px_k_get fk_X10_40, List.forall_mem_cons.mpr ⟨px_k_sta (by decide) mt_136 ⟨kw_659, kw_660, pd_136⟩, fun _ h => nomatch h⟩⟩
set_option maxRecDepth 20000 in
theorem ok_X10_isStove : px_okMt kt_mt kt_T vwCl kt_X M_X10_isStove := px_mk (M := M_X10_isStove) rfl (by decide) ⟨by decide, by decide⟩ (by decide) kw_651 kw_662 trivial de_X10_isStove (by decide +kernel) lk_X10_isStove
set_option maxRecDepth 20000 in
theorem de_X10_isDish : px_dec cX10_isDish (ls_X10_isDish ++ ll_X10_isDish) := by unfold px_dec; decide +kernel
set_option maxRecDepth 20000 in
set_option maxHeartbeats 4000000 in
theorem lk_X10_isDish : ∀ q ∈ ll_X10_isDish, px_okR kt_mt kt_T vwCl kt_X yX10_isDish cX10_isDish q.1 q.2 := List.forall_mem_cons.mpr ⟨px_k_get fk_X10_40, List.forall_mem_cons.mpr ⟨px_k_sta (by decide) mt_136 ⟨kw_659, kw_660, pd_136⟩, fun _ h => nomatch h⟩⟩
set_option maxRecDepth 20000 in
theorem ok_X10_isDish : px_okMt kt_mt kt_T vwCl kt_X M_X10_isDish := px_mk (M := M_X10_isDish) rfl (by decide) ⟨by decide, by decide⟩ (by decide) kw_651 kw_663 trivial de_X10_isDish (by decide +kernel) lk_X10_isDish
set_option maxRecDepth 20000 in
theorem de_X10_feed : px_dec cX10_feed (ls_X10_feed ++ ll_X10_feed) := by unfold px_dec; decide +kernel
set_option maxRecDepth 20000 in
set_option maxHeartbeats 4000000 in
theorem lk_X10_feed : ∀ q ∈ ll_X10_feed, px_okR kt_mt kt_T vwCl kt_X yX10_feed cX10_feed q.1 q.2 := List.forall_mem_cons.mpr ⟨px_k_put pk_X10_149, List.forall_mem_cons.mpr ⟨px_k_get fk_X10_156, List.forall_mem_cons.mpr ⟨px_k_get fk_X10_74, List.forall_mem_cons.mpr ⟨px_k_get fk_X10_156, List.forall_mem_cons.mpr ⟨px_k_get fk_X10_156, List.forall_mem_cons.mpr ⟨px_k_put pk_X10_156, List.forall_mem_cons.mpr ⟨px_k_get fk_X10_156, fun _ h => nomatch h⟩⟩⟩⟩⟩⟩⟩
set_option maxRecDepth 20000 in
theorem ok_X10_feed : px_okMt kt_mt kt_T vwCl kt_X M_X10_feed := px_mk (M := M_X10_feed) rfl (by decide) ⟨by decide, by decide⟩ (by decide) kw_651 kw_665 trivial de_X10_feed (by decide +kernel) lk_X10_feed
set_option maxRecDepth 20000 in
theorem de_X10_byteAt : px_dec cX10_byteAt (ls_X10_byteAt ++ ll_X10_byteAt) := by unfold px_dec; decide +kernel
set_option maxRecDepth 20000 in
set_option maxHeartbeats 4000000 in
theorem lk_X10_byteAt : ∀ q ∈ ll_X10_byteAt, px_okR kt_mt kt_T vwCl kt_X yX10_byteAt cX10_byteAt q.1 q.2 := List.forall_mem_cons.mpr ⟨px_k_get fk_X10_159, List.forall_mem_cons.mpr ⟨px_k_get fk_X10_74, fun _ h => nomatch h⟩⟩
set_option maxRecDepth 20000 in
theorem ok_X10_byteAt : px_okMt kt_mt kt_T vwCl kt_X M_X10_byteAt := px_mk (M := M_X10_byteAt) rfl (by decide) ⟨by decide, by decide⟩ (by decide) kw_651 kw_667 trivial de_X10_byteAt (by decide +kernel) lk_X10_byteAt
set_option maxRecDepth 20000 in
theorem de_X10_isLetter : px_dec cX10_isLetter (ls_X10_isLetter ++ ll_X10_isLetter) := by unfold px_dec; decide +kernel
set_option maxRecDepth 20000 in
set_option maxHeartbeats 4000000 in
theorem lk_X10_isLetter : ∀ q ∈ ll_X10_isLetter, px_okR kt_mt kt_T vwCl kt_X yX10_isLetter cX10_isLetter q.1 q.2 := fun _ h => nomatch h
set_option maxRecDepth 20000 in
theorem ok_X10_isLetter : px_okMt kt_mt kt_T vwCl kt_X M_X10_isLetter := px_mk (M := M_X10_isLetter) rfl (by decide) ⟨by decide, by decide⟩ (by decide) kw_651 kw_668 trivial de_X10_isLetter (by decide +kernel) lk_X10_isLetter
set_option maxRecDepth 20000 in
theorem de_X10_isDigit : px_dec cX10_isDigit (ls_X10_isDigit ++ ll_X10_isDigit) := by unfold px_dec; decide +kernel
set_option maxRecDepth 20000 in
set_option maxHeartbeats 4000000 in
theorem lk_X10_isDigit : ∀ q ∈ ll_X10_isDigit, px_okR kt_mt kt_T vwCl kt_X yX10_isDigit cX10_isDigit q.1 q.2 := fun _ h => nomatch h
set_option maxRecDepth 20000 in
theorem ok_X10_isDigit : px_okMt kt_mt kt_T vwCl kt_X M_X10_isDigit := px_mk (M := M_X10_isDigit) rfl (by decide) ⟨by decide, by decide⟩ (by decide) kw_651 kw_669 trivial de_X10_isDigit (by decide +kernel) lk_X10_isDigit
set_option maxRecDepth 20000 in
theorem de_X10_isMark : px_dec cX10_isMark (ls_X10_isMark ++ ll_X10_isMark) := by unfold px_dec; decide +kernel
set_option maxRecDepth 20000 in
set_option maxHeartbeats 4000000 in
theorem lk_X10_isMark : ∀ q ∈ ll_X10_isMark, px_okR kt_mt kt_T vwCl kt_X yX10_isMark cX10_isMark q.1 q.2 := fun _ h => nomatch h
set_option maxRecDepth 20000 in
theorem ok_X10_isMark : px_okMt kt_mt kt_T vwCl kt_X M_X10_isMark := px_mk (M := M_X10_isMark) rfl (by decide) ⟨by decide, by decide⟩ (by decide) kw_651 kw_670 trivial de_X10_isMark (by decide +kernel) lk_X10_isMark
set_option maxRecDepth 20000 in
theorem de_X10_stepOn : px_dec cX10_stepOn (ls_X10_stepOn ++ ll_X10_stepOn) := by unfold px_dec; decide +kernel
set_option maxRecDepth 20000 in
set_option maxHeartbeats 4000000 in
theorem lk_X10_stepOn : ∀ q ∈ ll_X10_stepOn, px_okR kt_mt kt_T vwCl kt_X yX10_stepOn cX10_stepOn q.1 q.2 := List.forall_mem_cons.mpr ⟨px_k_get fk_X10_162, List.forall_mem_cons.mpr ⟨px_k_vir (by decide) mt_142 ⟨rfl, kw_672, kw_673, kw_674, ⟨_, _, rfl⟩, pd_142⟩, List.forall_mem_cons.mpr ⟨px_k_get fk_X10_162, List.forall_mem_cons.mpr ⟨px_k_vir (by decide) mt_142 ⟨rfl, kw_672, kw_673, kw_674, ⟨_, _, rfl⟩, pd_142⟩, List.forall_mem_cons.mpr ⟨px_k_get fk_X10_162, List.forall_mem_cons.mpr ⟨px_k_put pk_X10_162, List.forall_mem_cons.mpr ⟨px_k_get fk_X10_162, List.forall_mem_cons.mpr ⟨px_k_put pk_X10_169, List.forall_mem_cons.mpr ⟨px_k_get fk_X10_162, List.forall_mem_cons.mpr ⟨px_k_vir (by decide) mt_142 ⟨rfl, kw_672, kw_673, kw_674, ⟨_, _, rfl⟩, pd_142⟩, List.forall_mem_cons.mpr ⟨px_k_put pk_X10_172, List.forall_mem_cons.mpr ⟨px_k_sta (by decide) mt_143 ⟨kw_677, kw_678, pd_143⟩, List.forall_mem_cons.mpr ⟨px_k_get fk_X10_162, List.forall_mem_cons.mpr ⟨px_k_vir (by decide) mt_142 ⟨rfl, kw_672, kw_673, kw_674, ⟨_, _, rfl⟩, pd_142⟩, List.forall_mem_cons.mpr ⟨px_k_sta (by decide) mt_143 ⟨kw_677, kw_678, pd_143⟩, List.forall_mem_cons.mpr ⟨px_k_get fk_X10_162, List.forall_mem_cons.mpr ⟨px_k_put pk_X10_162, List.forall_mem_cons.mpr ⟨px_k_put pk_X10_172, List.forall_mem_cons.mpr ⟨px_k_sta (by decide) mt_144 ⟨kw_679, kw_680, pd_144⟩, List.forall_mem_cons.mpr ⟨px_k_put pk_X10_182, List.forall_mem_cons.mpr ⟨px_k_get fk_X10_162, List.forall_mem_cons.mpr ⟨px_k_vir (by decide) mt_142 ⟨rfl, kw_672, kw_673, kw_674, ⟨_, _, rfl⟩, pd_142⟩, List.forall_mem_cons.mpr ⟨px_k_sta (by decide) mt_144 ⟨kw_679, kw_680, pd_144⟩, List.forall_mem_cons.mpr ⟨px_k_ldci kw_682, List.forall_mem_cons.mpr ⟨px_k_get fk_X10_182, List.forall_mem_cons.mpr ⟨px_k_get fk_X10_162, List.forall_mem_cons.mpr ⟨px_k_vir (by decide) mt_142 ⟨rfl, kw_672, kw_673, kw_674, ⟨_, _, rfl⟩, pd_142⟩, List.forall_mem_cons.mpr ⟨px_k_min kt_no1002 ⟨kw_683, kw_134, kw_131, kw_135⟩, List.forall_mem_cons.mpr ⟨px_k_put pk_X10_182, List.forall_mem_cons.mpr ⟨px_k_get fk_X10_162, List.forall_mem_cons.mpr ⟨px_k_put pk_X10_162, List.forall_mem_cons.mpr ⟨px_k_put pk_X10_172, List.forall_mem_cons.mpr ⟨px_k_get fk_X10_162, List.forall_mem_cons.mpr ⟨px_k_put pk_X10_162, List.forall_mem_cons.mpr ⟨px_k_sta (by decide) mt_145 ⟨kw_684, kw_685, pd_145⟩, List.forall_mem_cons.mpr ⟨px_k_put pk_X10_172, List.forall_mem_cons.mpr ⟨px_k_get fk_X10_162, List.forall_mem_cons.mpr ⟨px_k_put pk_X10_195, fun _ h => nomatch h⟩⟩⟩⟩⟩⟩⟩⟩⟩⟩⟩⟩⟩⟩⟩⟩⟩⟩⟩⟩⟩⟩⟩⟩⟩⟩⟩⟩⟩⟩⟩⟩⟩⟩⟩⟩⟩⟩
set_option maxRecDepth 20000 in
theorem ok_X10_stepOn : px_okMt kt_mt kt_T vwCl kt_X M_X10_stepOn := px_mk (M := M_X10_stepOn) rfl (by decide) ⟨by decide, by decide⟩ (by decide) kw_651 kw_687 trivial de_X10_stepOn (by decide +kernel) lk_X10_stepOn
set_option maxRecDepth 20000 in
theorem de_X10_wrong : px_dec cX10_wrong (ls_X10_wrong ++ ll_X10_wrong) := by unfold px_dec; decide +kernel
set_option maxRecDepth 20000 in
set_option maxHeartbeats 4000000 in
theorem lk_X10_wrong : ∀ q ∈ ll_X10_wrong, px_okR kt_mt kt_T vwCl kt_X yX10_wrong cX10_wrong q.1 q.2 := List.forall_mem_cons.mpr ⟨px_k_get fk_X10_198, List.forall_mem_cons.mpr ⟨px_k_put pk_X10_198, List.forall_mem_cons.mpr ⟨px_k_get fk_X10_169, List.forall_mem_cons.mpr ⟨px_k_put pk_X10_201, fun _ h => nomatch h⟩⟩⟩⟩
set_option maxRecDepth 20000 in
theorem ok_X10_wrong : px_okMt kt_mt kt_T vwCl kt_X M_X10_wrong := px_mk (M := M_X10_wrong) rfl (by decide) ⟨by decide, by decide⟩ (by decide) kw_651 kw_690 trivial de_X10_wrong (by decide +kernel) lk_X10_wrong
set_option maxRecDepth 20000 in
theorem de_X10_is : px_dec cX10_is (ls_X10_is ++ ll_X10_is) := by unfold px_dec; decide +kernel
set_option maxRecDepth 20000 in
set_option maxHeartbeats 4000000 in
theorem lk_X10_is : ∀ q ∈ ll_X10_is, px_okR kt_mt kt_T vwCl kt_X yX10_is cX10_is q.1 q.2 := List.forall_mem_cons.mpr ⟨px_k_get fk_X10_198, List.forall_mem_cons.mpr ⟨px_k_get fk_X10_172, List.forall_mem_cons.mpr ⟨px_k_len kt_no1005 kw_691, List.forall_mem_cons.mpr ⟨px_k_get fk_X10_195, List.forall_mem_cons.mpr ⟨px_k_get fk_X10_169, List.forall_mem_cons.mpr ⟨px_k_len kt_no1005 kw_691, List.forall_mem_cons.mpr ⟨px_k_chr kt_no1006 kw_692, List.forall_mem_cons.mpr ⟨px_k_get fk_X10_74, List.forall_mem_cons.mpr ⟨px_k_get fk_X10_169, fun _ h => nomatch h⟩⟩⟩⟩⟩⟩⟩⟩⟩
set_option maxRecDepth 20000 in
theorem ok_X10_is : px_okMt kt_mt kt_T vwCl kt_X M_X10_is := px_mk (M := M_X10_is) rfl (by decide) ⟨by decide, by decide⟩ (by decide) kw_651 kw_693 trivial de_X10_is (by decide +kernel) lk_X10_is
set_option maxRecDepth 20000 in
theorem de_X10_which : px_dec cX10_which (ls_X10_which ++ ll_X10_which) := by unfold px_dec; decide +kernel
set_option maxRecDepth 20000 in
set_option maxHeartbeats 4000000 in
theorem lk_X10_which : ∀ q ∈ ll_X10_which, px_okR kt_mt kt_T vwCl kt_X yX10_which cX10_which q.1 q.2 := List.forall_mem_cons.mpr ⟨px_k_vir (by decide) mt_148 ⟨rfl, kw_694, kw_695, kw_696, ⟨_, _, rfl⟩, pd_148⟩, fun _ h => nomatch h⟩
set_option maxRecDepth 20000 in
theorem ok_X10_which : px_okMt kt_mt kt_T vwCl kt_X M_X10_which := px_mk (M := M_X10_which) rfl (by decide) ⟨by decide, by decide⟩ (by decide) kw_651 kw_697 trivial de_X10_which (by decide +kernel) lk_X10_which
set_option maxRecDepth 20000 in
theorem de_X10_isMarked : px_dec cX10_isMarked (ls_X10_isMarked ++ ll_X10_isMarked) := by unfold px_dec; decide +kernel
set_option maxRecDepth 20000 in
set_option maxHeartbeats 4000000 in
theorem lk_X10_isMarked : ∀ q ∈ ll_X10_isMarked, px_okR kt_mt kt_T vwCl kt_X yX10_isMarked cX10_isMarked q.1 q.2 := List.forall_mem_cons.mpr ⟨px_k_get fk_X10_198, List.forall_mem_cons.mpr ⟨px_k_get fk_X10_172, List.forall_mem_cons.mpr ⟨px_k_get fk_X10_74, List.forall_mem_cons.mpr ⟨px_k_get fk_X10_169, fun _ h => nomatch h⟩⟩⟩⟩
set_option maxRecDepth 20000 in
theorem ok_X10_isMarked : px_okMt kt_mt kt_T vwCl kt_X M_X10_isMarked := px_mk (M := M_X10_isMarked) rfl (by decide) ⟨by decide, by decide⟩ (by decide) kw_651 kw_698 trivial de_X10_isMarked (by decide +kernel) lk_X10_isMarked
set_option maxRecDepth 20000 in
theorem de_X10_mark : px_dec cX10_mark (ls_X10_mark ++ ll_X10_mark) := by unfold px_dec; decide +kernel
set_option maxRecDepth 20000 in
set_option maxHeartbeats 4000000 in
theorem lk_X10_mark : ∀ q ∈ ll_X10_mark, px_okR kt_mt kt_T vwCl kt_X yX10_mark cX10_mark q.1 q.2 := List.forall_mem_cons.mpr ⟨px_k_get fk_X10_198, List.forall_mem_cons.mpr ⟨px_k_vir (by decide) mt_150 ⟨rfl, kw_699, kw_700, kw_701, ⟨_, _, rfl⟩, pd_150⟩, List.forall_mem_cons.mpr ⟨px_k_vir (by decide) mt_147 ⟨rfl, kw_702, kw_703, kw_704, ⟨_, _, rfl⟩, pd_147⟩, List.forall_mem_cons.mpr ⟨px_k_get fk_X10_198, List.forall_mem_cons.mpr ⟨px_k_vir (by decide) mt_146 ⟨rfl, kw_705, kw_706, kw_707, ⟨_, _, rfl⟩, pd_146⟩, fun _ h => nomatch h⟩⟩⟩⟩⟩
set_option maxRecDepth 20000 in
theorem ok_X10_mark : px_okMt kt_mt kt_T vwCl kt_X M_X10_mark := px_mk (M := M_X10_mark) rfl (by decide) ⟨by decide, by decide⟩ (by decide) kw_651 kw_708 trivial de_X10_mark (by decide +kernel) lk_X10_mark
set_option maxRecDepth 20000 in
theorem de_X10_numberNow : px_dec cX10_numberNow (ls_X10_numberNow ++ ll_X10_numberNow) := by unfold px_dec; decide +kernel
set_option maxRecDepth 20000 in
set_option maxHeartbeats 4000000 in
theorem lk_X10_numberNow : ∀ q ∈ ll_X10_numberNow, px_okR kt_mt kt_T vwCl kt_X yX10_numberNow cX10_numberNow q.1 q.2 := List.forall_mem_cons.mpr ⟨px_k_get fk_X10_198, List.forall_mem_cons.mpr ⟨px_k_get fk_X10_172, List.forall_mem_cons.mpr ⟨px_k_vir (by decide) mt_147 ⟨rfl, kw_702, kw_703, kw_704, ⟨_, _, rfl⟩, pd_147⟩, List.forall_mem_cons.mpr ⟨px_k_get fk_X10_195, List.forall_mem_cons.mpr ⟨px_k_get fk_X10_169, List.forall_mem_cons.mpr ⟨px_k_get fk_X10_182, List.forall_mem_cons.mpr ⟨px_k_get fk_X10_182, List.forall_mem_cons.mpr ⟨px_k_vir (by decide) mt_147 ⟨rfl, kw_702, kw_703, kw_704, ⟨_, _, rfl⟩, pd_147⟩, List.forall_mem_cons.mpr ⟨px_k_get fk_X10_198, List.forall_mem_cons.mpr ⟨px_k_get fk_X10_182, fun _ h => nomatch h⟩⟩⟩⟩⟩⟩⟩⟩⟩⟩
set_option maxRecDepth 20000 in
theorem ok_X10_numberNow : px_okMt kt_mt kt_T vwCl kt_X M_X10_numberNow := px_mk (M := M_X10_numberNow) rfl (by decide) ⟨by decide, by decide⟩ (by decide) kw_651 kw_709 trivial de_X10_numberNow (by decide +kernel) lk_X10_numberNow
set_option maxRecDepth 20000 in
theorem de_X10_readNumber : px_dec cX10_readNumber (ls_X10_readNumber ++ ll_X10_readNumber) := by unfold px_dec; decide +kernel
set_option maxRecDepth 20000 in
set_option maxHeartbeats 4000000 in
theorem lk_X10_readNumber : ∀ q ∈ ll_X10_readNumber, px_okR kt_mt kt_T vwCl kt_X yX10_readNumber cX10_readNumber q.1 q.2 := List.forall_mem_cons.mpr ⟨px_k_vir (by decide) mt_152 ⟨rfl, kw_710, kw_711, kw_712, ⟨_, _, rfl⟩, pd_152⟩, List.forall_mem_cons.mpr ⟨px_k_get fk_X10_198, List.forall_mem_cons.mpr ⟨px_k_vir (by decide) mt_146 ⟨rfl, kw_705, kw_706, kw_707, ⟨_, _, rfl⟩, pd_146⟩, fun _ h => nomatch h⟩⟩⟩
set_option maxRecDepth 20000 in
theorem ok_X10_readNumber : px_okMt kt_mt kt_T vwCl kt_X M_X10_readNumber := px_mk (M := M_X10_readNumber) rfl (by decide) ⟨by decide, by decide⟩ (by decide) kw_651 kw_713 trivial de_X10_readNumber (by decide +kernel) lk_X10_readNumber
set_option maxRecDepth 20000 in
theorem de_X10_lay : px_dec cX10_lay (ls_X10_lay ++ ll_X10_lay) := by unfold px_dec; decide +kernel
set_option maxRecDepth 20000 in
set_option maxHeartbeats 4000000 in
theorem lk_X10_lay : ∀ q ∈ ll_X10_lay, px_okR kt_mt kt_T vwCl kt_X yX10_lay cX10_lay q.1 q.2 := List.forall_mem_cons.mpr ⟨px_k_get fk_X10_198, List.forall_mem_cons.mpr ⟨px_k_get fk_X10_68, List.forall_mem_cons.mpr ⟨px_k_get fk_X10_40, List.forall_mem_cons.mpr ⟨px_k_get fk_X10_40, fun _ h => nomatch h⟩⟩⟩⟩
set_option maxRecDepth 20000 in
theorem ok_X10_lay : px_okMt kt_mt kt_T vwCl kt_X M_X10_lay := px_mk (M := M_X10_lay) rfl (by decide) ⟨by decide, by decide⟩ (by decide) kw_651 kw_714 trivial de_X10_lay (by decide +kernel) lk_X10_lay
set_option maxRecDepth 20000 in
theorem de_X10_readPart : px_dec cX10_readPart (ls_X10_readPart ++ ll_X10_readPart) := by unfold px_dec; decide +kernel
set_option maxRecDepth 20000 in
set_option maxHeartbeats 4000000 in
theorem lk_X10_readPart : ∀ q ∈ ll_X10_readPart, px_okR kt_mt kt_T vwCl kt_X yX10_readPart cX10_readPart q.1 q.2 := List.forall_mem_cons.mpr ⟨px_k_get fk_X10_198, List.forall_mem_cons.mpr ⟨px_k_get fk_X10_172, List.forall_mem_cons.mpr ⟨px_k_vir (by decide) mt_153 ⟨rfl, kw_715, kw_716, kw_717, ⟨_, _, rfl⟩, pd_153⟩, List.forall_mem_cons.mpr ⟨px_k_vir (by decide) mt_154 ⟨rfl, kw_718, kw_719, kw_720, ⟨_, _, rfl⟩, pd_154⟩, List.forall_mem_cons.mpr ⟨px_k_get fk_X10_172, List.forall_mem_cons.mpr ⟨px_k_get fk_X10_37, List.forall_mem_cons.mpr ⟨px_k_vir (by decide) mt_149 ⟨rfl, kw_721, kw_722, kw_723, ⟨_, _, rfl⟩, pd_149⟩, List.forall_mem_cons.mpr ⟨px_k_vir (by decide) mt_147 ⟨rfl, kw_702, kw_703, kw_704, ⟨_, _, rfl⟩, pd_147⟩, List.forall_mem_cons.mpr ⟨px_k_vir (by decide) mt_154 ⟨rfl, kw_718, kw_719, kw_720, ⟨_, _, rfl⟩, pd_154⟩, List.forall_mem_cons.mpr ⟨px_k_get fk_X10_198, List.forall_mem_cons.mpr ⟨px_k_vir (by decide) mt_146 ⟨rfl, kw_705, kw_706, kw_707, ⟨_, _, rfl⟩, pd_146⟩, List.forall_mem_cons.mpr ⟨px_k_vir (by decide) mt_151 ⟨rfl, kw_724, kw_725, kw_726, ⟨_, _, rfl⟩, pd_151⟩, List.forall_mem_cons.mpr ⟨px_k_vir (by decide) mt_160 ⟨rfl, kw_727, kw_728, kw_729, ⟨_, _, rfl⟩, pd_160⟩, List.forall_mem_cons.mpr ⟨px_k_vir (by decide) mt_151 ⟨rfl, kw_724, kw_725, kw_726, ⟨_, _, rfl⟩, pd_151⟩, fun _ h => nomatch h⟩⟩⟩⟩⟩⟩⟩⟩⟩⟩⟩⟩⟩⟩
set_option maxRecDepth 20000 in
theorem ok_X10_readPart : px_okMt kt_mt kt_T vwCl kt_X M_X10_readPart := px_mk (M := M_X10_readPart) rfl (by decide) ⟨by decide, by decide⟩ (by decide) kw_651 kw_730 trivial de_X10_readPart (by decide +kernel) lk_X10_readPart
set_option maxRecDepth 20000 in
theorem de_X10_readProduct : px_dec cX10_readProduct (ls_X10_readProduct ++ ll_X10_readProduct) := by unfold px_dec; decide +kernel
set_option maxRecDepth 20000 in
set_option maxHeartbeats 4000000 in
theorem lk_X10_readProduct : ∀ q ∈ ll_X10_readProduct, px_okR kt_mt kt_T vwCl kt_X yX10_readProduct cX10_readProduct q.1 q.2 := List.forall_mem_cons.mpr ⟨px_k_vir (by decide) mt_155 ⟨rfl, kw_731, kw_732, kw_733, ⟨_, _, rfl⟩, pd_155⟩, List.forall_mem_cons.mpr ⟨px_k_vir (by decide) mt_150 ⟨rfl, kw_699, kw_700, kw_701, ⟨_, _, rfl⟩, pd_150⟩, List.forall_mem_cons.mpr ⟨px_k_vir (by decide) mt_150 ⟨rfl, kw_699, kw_700, kw_701, ⟨_, _, rfl⟩, pd_150⟩, List.forall_mem_cons.mpr ⟨px_k_vir (by decide) mt_150 ⟨rfl, kw_699, kw_700, kw_701, ⟨_, _, rfl⟩, pd_150⟩, List.forall_mem_cons.mpr ⟨px_k_vir (by decide) mt_146 ⟨rfl, kw_705, kw_706, kw_707, ⟨_, _, rfl⟩, pd_146⟩, List.forall_mem_cons.mpr ⟨px_k_vir (by decide) mt_155 ⟨rfl, kw_731, kw_732, kw_733, ⟨_, _, rfl⟩, pd_155⟩, List.forall_mem_cons.mpr ⟨px_k_vir (by decide) mt_154 ⟨rfl, kw_718, kw_719, kw_720, ⟨_, _, rfl⟩, pd_154⟩, fun _ h => nomatch h⟩⟩⟩⟩⟩⟩⟩
set_option maxRecDepth 20000 in
theorem ok_X10_readProduct : px_okMt kt_mt kt_T vwCl kt_X M_X10_readProduct := px_mk (M := M_X10_readProduct) rfl (by decide) ⟨by decide, by decide⟩ (by decide) kw_651 kw_734 trivial de_X10_readProduct (by decide +kernel) lk_X10_readProduct
set_option maxRecDepth 20000 in
theorem de_X10_readSum : px_dec cX10_readSum (ls_X10_readSum ++ ll_X10_readSum) := by unfold px_dec; decide +kernel
set_option maxRecDepth 20000 in
set_option maxHeartbeats 4000000 in
theorem lk_X10_readSum : ∀ q ∈ ll_X10_readSum, px_okR kt_mt kt_T vwCl kt_X yX10_readSum cX10_readSum q.1 q.2 := List.forall_mem_cons.mpr ⟨px_k_vir (by decide) mt_156 ⟨rfl, kw_735, kw_736, kw_737, ⟨_, _, rfl⟩, pd_156⟩, List.forall_mem_cons.mpr ⟨px_k_vir (by decide) mt_150 ⟨rfl, kw_699, kw_700, kw_701, ⟨_, _, rfl⟩, pd_150⟩, List.forall_mem_cons.mpr ⟨px_k_vir (by decide) mt_150 ⟨rfl, kw_699, kw_700, kw_701, ⟨_, _, rfl⟩, pd_150⟩, List.forall_mem_cons.mpr ⟨px_k_vir (by decide) mt_150 ⟨rfl, kw_699, kw_700, kw_701, ⟨_, _, rfl⟩, pd_150⟩, List.forall_mem_cons.mpr ⟨px_k_vir (by decide) mt_146 ⟨rfl, kw_705, kw_706, kw_707, ⟨_, _, rfl⟩, pd_146⟩, List.forall_mem_cons.mpr ⟨px_k_vir (by decide) mt_156 ⟨rfl, kw_735, kw_736, kw_737, ⟨_, _, rfl⟩, pd_156⟩, List.forall_mem_cons.mpr ⟨px_k_vir (by decide) mt_154 ⟨rfl, kw_718, kw_719, kw_720, ⟨_, _, rfl⟩, pd_154⟩, fun _ h => nomatch h⟩⟩⟩⟩⟩⟩⟩
set_option maxRecDepth 20000 in
theorem ok_X10_readSum : px_okMt kt_mt kt_T vwCl kt_X M_X10_readSum := px_mk (M := M_X10_readSum) rfl (by decide) ⟨by decide, by decide⟩ (by decide) kw_651 kw_738 trivial de_X10_readSum (by decide +kernel) lk_X10_readSum
set_option maxRecDepth 20000 in
theorem de_X10_readNot : px_dec cX10_readNot (ls_X10_readNot ++ ll_X10_readNot) := by unfold px_dec; decide +kernel
set_option maxRecDepth 20000 in
set_option maxHeartbeats 4000000 in
theorem lk_X10_readNot : ∀ q ∈ ll_X10_readNot, px_okR kt_mt kt_T vwCl kt_X yX10_readNot cX10_readNot q.1 q.2 := List.forall_mem_cons.mpr ⟨px_k_ldcs (k := 47) (by decide) (rfl : kt_X.1[47]? = some (_, _, "not")), List.forall_mem_cons.mpr ⟨px_k_vir (by decide) mt_148 ⟨rfl, kw_694, kw_695, kw_696, ⟨_, _, rfl⟩, pd_148⟩, List.forall_mem_cons.mpr ⟨px_k_vir (by decide) mt_147 ⟨rfl, kw_702, kw_703, kw_704, ⟨_, _, rfl⟩, pd_147⟩, List.forall_mem_cons.mpr ⟨px_k_get fk_X10_198, List.forall_mem_cons.mpr ⟨px_k_vir (by decide) mt_146 ⟨rfl, kw_705, kw_706, kw_707, ⟨_, _, rfl⟩, pd_146⟩, List.forall_mem_cons.mpr ⟨px_k_vir (by decide) mt_157 ⟨rfl, kw_739, kw_740, kw_741, ⟨_, _, rfl⟩, pd_157⟩, List.forall_mem_cons.mpr ⟨px_k_vir (by decide) mt_150 ⟨rfl, kw_699, kw_700, kw_701, ⟨_, _, rfl⟩, pd_150⟩, List.forall_mem_cons.mpr ⟨px_k_vir (by decide) mt_150 ⟨rfl, kw_699, kw_700, kw_701, ⟨_, _, rfl⟩, pd_150⟩, List.forall_mem_cons.mpr ⟨px_k_vir (by decide) mt_150 ⟨rfl, kw_699, kw_700, kw_701, ⟨_, _, rfl⟩, pd_150⟩, List.forall_mem_cons.mpr ⟨px_k_vir (by decide) mt_146 ⟨rfl, kw_705, kw_706, kw_707, ⟨_, _, rfl⟩, pd_146⟩, List.forall_mem_cons.mpr ⟨px_k_vir (by decide) mt_157 ⟨rfl, kw_739, kw_740, kw_741, ⟨_, _, rfl⟩, pd_157⟩, List.forall_mem_cons.mpr ⟨px_k_vir (by decide) mt_154 ⟨rfl, kw_718, kw_719, kw_720, ⟨_, _, rfl⟩, pd_154⟩, List.forall_mem_cons.mpr ⟨px_k_vir (by decide) mt_154 ⟨rfl, kw_718, kw_719, kw_720, ⟨_, _, rfl⟩, pd_154⟩, fun _ h => nomatch h⟩⟩⟩⟩⟩⟩⟩⟩⟩⟩⟩⟩⟩
set_option maxRecDepth 20000 in
theorem ok_X10_readNot : px_okMt kt_mt kt_T vwCl kt_X M_X10_readNot := px_mk (M := M_X10_readNot) rfl (by decide) ⟨by decide, by decide⟩ (by decide) kw_651 kw_742 trivial de_X10_readNot (by decide +kernel) lk_X10_readNot
set_option maxRecDepth 20000 in
theorem de_X10_readAnd : px_dec cX10_readAnd (ls_X10_readAnd ++ ll_X10_readAnd) := by unfold px_dec; decide +kernel
set_option maxRecDepth 20000 in
set_option maxHeartbeats 4000000 in
theorem lk_X10_readAnd : ∀ q ∈ ll_X10_readAnd, px_okR kt_mt kt_T vwCl kt_X yX10_readAnd cX10_readAnd q.1 q.2 := List.forall_mem_cons.mpr ⟨px_k_vir (by decide) mt_158 ⟨rfl, kw_743, kw_744, kw_745, ⟨_, _, rfl⟩, pd_158⟩, List.forall_mem_cons.mpr ⟨px_k_ldcws (k := 48) (by decide) (rfl : kt_X.1[48]? = some (_, _, "and")), List.forall_mem_cons.mpr ⟨px_k_vir (by decide) mt_148 ⟨rfl, kw_694, kw_695, kw_696, ⟨_, _, rfl⟩, pd_148⟩, List.forall_mem_cons.mpr ⟨px_k_vir (by decide) mt_146 ⟨rfl, kw_705, kw_706, kw_707, ⟨_, _, rfl⟩, pd_146⟩, List.forall_mem_cons.mpr ⟨px_k_vir (by decide) mt_158 ⟨rfl, kw_743, kw_744, kw_745, ⟨_, _, rfl⟩, pd_158⟩, List.forall_mem_cons.mpr ⟨px_k_vir (by decide) mt_154 ⟨rfl, kw_718, kw_719, kw_720, ⟨_, _, rfl⟩, pd_154⟩, fun _ h => nomatch h⟩⟩⟩⟩⟩⟩
set_option maxRecDepth 20000 in
theorem ok_X10_readAnd : px_okMt kt_mt kt_T vwCl kt_X M_X10_readAnd := px_mk (M := M_X10_readAnd) rfl (by decide) ⟨by decide, by decide⟩ (by decide) kw_651 kw_746 trivial de_X10_readAnd (by decide +kernel) lk_X10_readAnd
