/-! ===== printed by wip/whole/gen.py: the methods of the tables are right ===== -/
set_option maxRecDepth 20000 in
theorem de_X10_readExpression : px_dec cX10_readExpression (ls_X10_readExpression ++ ll_X10_readExpression) := by unfold px_dec; decide +kernel
set_option maxRecDepth 20000 in
set_option maxHeartbeats 4000000 in
theorem lk_X10_readExpression : ∀ q ∈ ll_X10_readExpression, px_okR kt_mt kt_T vwCl kt_X yX10_readExpression cX10_readExpression q.1 q.2 := List.forall_mem_cons.mpr ⟨px_k_get fk_X10_198, List.forall_mem_cons.mpr ⟨px_k_get fk_X10_172, List.forall_mem_cons.mpr ⟨px_k_get fk_X10_172, List.forall_mem_cons.mpr ⟨px_k_vir (by decide) mt_150 ⟨rfl, kw_699, kw_700, kw_701, ⟨_, _, rfl⟩, pd_150⟩, List.forall_mem_cons.mpr ⟨px_k_vir (by decide) mt_147 ⟨rfl, kw_702, kw_703, kw_704, ⟨_, _, rfl⟩, pd_147⟩, List.forall_mem_cons.mpr ⟨px_k_vir (by decide) mt_147 ⟨rfl, kw_702, kw_703, kw_704, ⟨_, _, rfl⟩, pd_147⟩, List.forall_mem_cons.mpr ⟨px_k_vir (by decide) mt_159 ⟨rfl, kw_747, kw_748, kw_749, ⟨_, _, rfl⟩, pd_159⟩, List.forall_mem_cons.mpr ⟨px_k_ldcws (k := 49) (by decide) (rfl : kt_X.1[49]? = some (_, _, "or")), List.forall_mem_cons.mpr ⟨px_k_vir (by decide) mt_148 ⟨rfl, kw_694, kw_695, kw_696, ⟨_, _, rfl⟩, pd_148⟩, List.forall_mem_cons.mpr ⟨px_k_vir (by decide) mt_146 ⟨rfl, kw_705, kw_706, kw_707, ⟨_, _, rfl⟩, pd_146⟩, List.forall_mem_cons.mpr ⟨px_k_vir (by decide) mt_159 ⟨rfl, kw_747, kw_748, kw_749, ⟨_, _, rfl⟩, pd_159⟩, List.forall_mem_cons.mpr ⟨px_k_vir (by decide) mt_154 ⟨rfl, kw_718, kw_719, kw_720, ⟨_, _, rfl⟩, pd_154⟩, fun _ h => nomatch h⟩⟩⟩⟩⟩⟩⟩⟩⟩⟩⟩⟩
set_option maxRecDepth 20000 in
theorem ok_X10_readExpression : px_okMt kt_mt kt_T vwCl kt_X M_X10_readExpression := px_mk (M := M_X10_readExpression) rfl (by decide) ⟨by decide, by decide⟩ (by decide) kw_651 kw_750 trivial de_X10_readExpression (by decide +kernel) lk_X10_readExpression
set_option maxRecDepth 20000 in
theorem de_X10_another : px_dec cX10_another (ls_X10_another ++ ll_X10_another) := by unfold px_dec; decide +kernel
set_option maxRecDepth 20000 in
set_option maxHeartbeats 4000000 in
theorem lk_X10_another : ∀ q ∈ ll_X10_another, px_okR kt_mt kt_T vwCl kt_X yX10_another cX10_another q.1 q.2 := List.forall_mem_cons.mpr ⟨px_k_get fk_X10_40, List.forall_mem_cons.mpr ⟨px_k_vir (by decide) mt_147 ⟨rfl, kw_702, kw_703, kw_704, ⟨_, _, rfl⟩, pd_147⟩, List.forall_mem_cons.mpr ⟨px_k_get fk_X10_198, List.forall_mem_cons.mpr ⟨px_k_vir (by decide) mt_146 ⟨rfl, kw_705, kw_706, kw_707, ⟨_, _, rfl⟩, pd_146⟩, fun _ h => nomatch h⟩⟩⟩⟩
set_option maxRecDepth 20000 in
theorem ok_X10_another : px_okMt kt_mt kt_T vwCl kt_X M_X10_another := px_mk (M := M_X10_another) rfl (by decide) ⟨by decide, by decide⟩ (by decide) kw_651 kw_751 trivial de_X10_another (by decide +kernel) lk_X10_another
set_option maxRecDepth 20000 in
theorem de_X10_readKettle : px_dec cX10_readKettle (ls_X10_readKettle ++ ll_X10_readKettle) := by unfold px_dec; decide +kernel
set_option maxRecDepth 20000 in
set_option maxHeartbeats 4000000 in
theorem lk_X10_readKettle : ∀ q ∈ ll_X10_readKettle, px_okR kt_mt kt_T vwCl kt_X yX10_readKettle cX10_readKettle q.1 q.2 := List.forall_mem_cons.mpr ⟨px_k_vir (by decide) mt_161 ⟨rfl, kw_752, kw_753, kw_754, ⟨_, _, rfl⟩, pd_161⟩, List.forall_mem_cons.mpr ⟨px_k_get fk_X10_40, List.forall_mem_cons.mpr ⟨px_k_get fk_X10_44, List.forall_mem_cons.mpr ⟨px_k_get fk_X10_47, List.forall_mem_cons.mpr ⟨px_k_vir (by decide) mt_153 ⟨rfl, kw_715, kw_716, kw_717, ⟨_, _, rfl⟩, pd_153⟩, List.forall_mem_cons.mpr ⟨px_k_get fk_X10_50, List.forall_mem_cons.mpr ⟨px_k_vir (by decide) mt_153 ⟨rfl, kw_715, kw_716, kw_717, ⟨_, _, rfl⟩, pd_153⟩, List.forall_mem_cons.mpr ⟨px_k_get fk_X10_53, List.forall_mem_cons.mpr ⟨px_k_get fk_X10_50, List.forall_mem_cons.mpr ⟨px_k_vir (by decide) mt_153 ⟨rfl, kw_715, kw_716, kw_717, ⟨_, _, rfl⟩, pd_153⟩, List.forall_mem_cons.mpr ⟨px_k_get fk_X10_56, List.forall_mem_cons.mpr ⟨px_k_vir (by decide) mt_153 ⟨rfl, kw_715, kw_716, kw_717, ⟨_, _, rfl⟩, pd_153⟩, List.forall_mem_cons.mpr ⟨px_k_get fk_X10_40, fun _ h => nomatch h⟩⟩⟩⟩⟩⟩⟩⟩⟩⟩⟩⟩⟩
set_option maxRecDepth 20000 in
theorem ok_X10_readKettle : px_okMt kt_mt kt_T vwCl kt_X M_X10_readKettle := px_mk (M := M_X10_readKettle) rfl (by decide) ⟨by decide, by decide⟩ (by decide) kw_651 kw_755 trivial de_X10_readKettle (by decide +kernel) lk_X10_readKettle
set_option maxRecDepth 20000 in
theorem de_X10_readStove : px_dec cX10_readStove (ls_X10_readStove ++ ll_X10_readStove) := by unfold px_dec; decide +kernel
set_option maxRecDepth 20000 in
set_option maxHeartbeats 4000000 in
theorem lk_X10_readStove : ∀ q ∈ ll_X10_readStove, px_okR kt_mt kt_T vwCl kt_X yX10_readStove cX10_readStove q.1 q.2 := List.forall_mem_cons.mpr ⟨px_k_vir (by decide) mt_161 ⟨rfl, kw_752, kw_753, kw_754, ⟨_, _, rfl⟩, pd_161⟩, List.forall_mem_cons.mpr ⟨px_k_get fk_X10_59, List.forall_mem_cons.mpr ⟨px_k_get fk_X10_40, List.forall_mem_cons.mpr ⟨px_k_vir (by decide) mt_153 ⟨rfl, kw_715, kw_716, kw_717, ⟨_, _, rfl⟩, pd_153⟩, List.forall_mem_cons.mpr ⟨px_k_get fk_X10_40, fun _ h => nomatch h⟩⟩⟩⟩⟩
set_option maxRecDepth 20000 in
theorem ok_X10_readStove : px_okMt kt_mt kt_T vwCl kt_X M_X10_readStove := px_mk (M := M_X10_readStove) rfl (by decide) ⟨by decide, by decide⟩ (by decide) kw_651 kw_756 trivial de_X10_readStove (by decide +kernel) lk_X10_readStove
set_option maxRecDepth 20000 in
theorem de_X10_readDish : px_dec cX10_readDish (ls_X10_readDish ++ ll_X10_readDish) := by unfold px_dec; decide +kernel
set_option maxRecDepth 20000 in
set_option maxHeartbeats 4000000 in
theorem lk_X10_readDish : ∀ q ∈ ll_X10_readDish, px_okR kt_mt kt_T vwCl kt_X yX10_readDish cX10_readDish q.1 q.2 := List.forall_mem_cons.mpr ⟨px_k_vir (by decide) mt_161 ⟨rfl, kw_752, kw_753, kw_754, ⟨_, _, rfl⟩, pd_161⟩, List.forall_mem_cons.mpr ⟨px_k_get fk_X10_40, List.forall_mem_cons.mpr ⟨px_k_get fk_X10_62, List.forall_mem_cons.mpr ⟨px_k_get fk_X10_198, List.forall_mem_cons.mpr ⟨px_k_get fk_X10_172, List.forall_mem_cons.mpr ⟨px_k_get fk_X10_172, List.forall_mem_cons.mpr ⟨px_k_get fk_X10_62, List.forall_mem_cons.mpr ⟨px_k_vir (by decide) mt_147 ⟨rfl, kw_702, kw_703, kw_704, ⟨_, _, rfl⟩, pd_147⟩, List.forall_mem_cons.mpr ⟨px_k_vir (by decide) mt_152 ⟨rfl, kw_710, kw_711, kw_712, ⟨_, _, rfl⟩, pd_152⟩, List.forall_mem_cons.mpr ⟨px_k_get fk_X10_198, List.forall_mem_cons.mpr ⟨px_k_get fk_X10_62, List.forall_mem_cons.mpr ⟨px_k_get fk_X10_65, List.forall_mem_cons.mpr ⟨px_k_vir (by decide) mt_147 ⟨rfl, kw_702, kw_703, kw_704, ⟨_, _, rfl⟩, pd_147⟩, List.forall_mem_cons.mpr ⟨px_k_get fk_X10_198, List.forall_mem_cons.mpr ⟨px_k_vir (by decide) mt_146 ⟨rfl, kw_705, kw_706, kw_707, ⟨_, _, rfl⟩, pd_146⟩, List.forall_mem_cons.mpr ⟨px_k_get fk_X10_65, List.forall_mem_cons.mpr ⟨px_k_get fk_X10_62, List.forall_mem_cons.mpr ⟨px_k_get fk_X10_62, List.forall_mem_cons.mpr ⟨px_k_get fk_X10_40, fun _ h => nomatch h⟩⟩⟩⟩⟩⟩⟩⟩⟩⟩⟩⟩⟩⟩⟩⟩⟩⟩⟩
set_option maxRecDepth 20000 in
theorem ok_X10_readDish : px_okMt kt_mt kt_T vwCl kt_X M_X10_readDish := px_mk (M := M_X10_readDish) rfl (by decide) ⟨by decide, by decide⟩ (by decide) kw_651 kw_757 trivial de_X10_readDish (by decide +kernel) lk_X10_readDish
set_option maxRecDepth 20000 in
theorem de_X10_readLine : px_dec cX10_readLine (ls_X10_readLine ++ ll_X10_readLine) := by unfold px_dec; decide +kernel
set_option maxRecDepth 20000 in
set_option maxHeartbeats 4000000 in
theorem lk_X10_readLine : ∀ q ∈ ll_X10_readLine, px_okR kt_mt kt_T vwCl kt_X yX10_readLine cX10_readLine q.1 q.2 := List.forall_mem_cons.mpr ⟨px_k_get fk_X10_19, List.forall_mem_cons.mpr ⟨px_k_vir (by decide) mt_149 ⟨rfl, kw_721, kw_722, kw_723, ⟨_, _, rfl⟩, pd_149⟩, List.forall_mem_cons.mpr ⟨px_k_ldcws (k := 50) (by decide) (rfl : kt_X.1[50]? = some (_, _, "lifts")), List.forall_mem_cons.mpr ⟨px_k_vir (by decide) mt_148 ⟨rfl, kw_694, kw_695, kw_696, ⟨_, _, rfl⟩, pd_148⟩, List.forall_mem_cons.mpr ⟨px_k_vir (by decide) mt_147 ⟨rfl, kw_702, kw_703, kw_704, ⟨_, _, rfl⟩, pd_147⟩, List.forall_mem_cons.mpr ⟨px_k_get fk_X10_198, List.forall_mem_cons.mpr ⟨px_k_vir (by decide) mt_146 ⟨rfl, kw_705, kw_706, kw_707, ⟨_, _, rfl⟩, pd_146⟩, List.forall_mem_cons.mpr ⟨px_k_vir (by decide) mt_160 ⟨rfl, kw_727, kw_728, kw_729, ⟨_, _, rfl⟩, pd_160⟩, List.forall_mem_cons.mpr ⟨px_k_vir (by decide) mt_151 ⟨rfl, kw_724, kw_725, kw_726, ⟨_, _, rfl⟩, pd_151⟩, List.forall_mem_cons.mpr ⟨px_k_vir (by decide) mt_162 ⟨rfl, kw_758, kw_759, kw_760, ⟨_, _, rfl⟩, pd_162⟩, List.forall_mem_cons.mpr ⟨px_k_ldcws (k := 51) (by decide) (rfl : kt_X.1[51]? = some (_, _, "stove")), List.forall_mem_cons.mpr ⟨px_k_vir (by decide) mt_148 ⟨rfl, kw_694, kw_695, kw_696, ⟨_, _, rfl⟩, pd_148⟩, List.forall_mem_cons.mpr ⟨px_k_vir (by decide) mt_163 ⟨rfl, kw_761, kw_762, kw_763, ⟨_, _, rfl⟩, pd_163⟩, List.forall_mem_cons.mpr ⟨px_k_ldcws (k := 52) (by decide) (rfl : kt_X.1[52]? = some (_, _, "dish")), List.forall_mem_cons.mpr ⟨px_k_vir (by decide) mt_148 ⟨rfl, kw_694, kw_695, kw_696, ⟨_, _, rfl⟩, pd_148⟩, List.forall_mem_cons.mpr ⟨px_k_vir (by decide) mt_164 ⟨rfl, kw_764, kw_765, kw_766, ⟨_, _, rfl⟩, pd_164⟩, List.forall_mem_cons.mpr ⟨px_k_vir (by decide) mt_147 ⟨rfl, kw_702, kw_703, kw_704, ⟨_, _, rfl⟩, pd_147⟩, List.forall_mem_cons.mpr ⟨px_k_vir (by decide) mt_151 ⟨rfl, kw_724, kw_725, kw_726, ⟨_, _, rfl⟩, pd_151⟩, fun _ h => nomatch h⟩⟩⟩⟩⟩⟩⟩⟩⟩⟩⟩⟩⟩⟩⟩⟩⟩⟩
set_option maxRecDepth 20000 in
theorem ok_X10_readLine : px_okMt kt_mt kt_T vwCl kt_X M_X10_readLine := px_mk (M := M_X10_readLine) rfl (by decide) ⟨by decide, by decide⟩ (by decide) kw_651 kw_767 trivial de_X10_readLine (by decide +kernel) lk_X10_readLine
set_option maxRecDepth 20000 in
theorem de_X10_kitchen : px_dec cX10_kitchen (ls_X10_kitchen ++ ll_X10_kitchen) := by unfold px_dec; decide +kernel
set_option maxRecDepth 20000 in
set_option maxHeartbeats 4000000 in
theorem lk_X10_kitchen : ∀ q ∈ ll_X10_kitchen, px_okR kt_mt kt_T vwCl kt_X yX10_kitchen cX10_kitchen q.1 q.2 := List.forall_mem_cons.mpr ⟨px_k_put pk_X10_149, List.forall_mem_cons.mpr ⟨px_k_get fk_X10_156, List.forall_mem_cons.mpr ⟨px_k_vir (by decide) mt_134 ⟨rfl, kw_768, kw_769, kw_770, ⟨_, _, rfl⟩, pd_134⟩, List.forall_mem_cons.mpr ⟨px_k_put pk_X10_156, List.forall_mem_cons.mpr ⟨px_k_put pk_X10_159, List.forall_mem_cons.mpr ⟨px_k_put pk_X10_162, List.forall_mem_cons.mpr ⟨px_k_put pk_X10_198, List.forall_mem_cons.mpr ⟨px_k_put pk_X10_77, List.forall_mem_cons.mpr ⟨px_k_get fk_X10_40, List.forall_mem_cons.mpr ⟨px_k_vir (by decide) mt_146 ⟨rfl, kw_705, kw_706, kw_707, ⟨_, _, rfl⟩, pd_146⟩, List.forall_mem_cons.mpr ⟨px_k_get fk_X10_198, List.forall_mem_cons.mpr ⟨px_k_get fk_X10_172, List.forall_mem_cons.mpr ⟨px_k_vir (by decide) mt_165 ⟨rfl, kw_771, kw_772, kw_773, ⟨_, _, rfl⟩, pd_165⟩, List.forall_mem_cons.mpr ⟨px_k_get fk_X10_198, List.forall_mem_cons.mpr ⟨px_k_get fk_X10_201, List.forall_mem_cons.mpr ⟨px_k_put pk_X10_77, List.forall_mem_cons.mpr ⟨px_k_get fk_X10_71, List.forall_mem_cons.mpr ⟨px_k_get fk_X10_198, List.forall_mem_cons.mpr ⟨px_k_vir (by decide) mt_168 ⟨rfl, kw_774, kw_775, kw_776, ⟨_, _, rfl⟩, pd_168⟩, fun _ h => nomatch h⟩⟩⟩⟩⟩⟩⟩⟩⟩⟩⟩⟩⟩⟩⟩⟩⟩⟩⟩
set_option maxRecDepth 20000 in
theorem ok_X10_kitchen : px_okMt kt_mt kt_T vwCl kt_X M_X10_kitchen := px_mk (M := M_X10_kitchen) rfl (by decide) ⟨by decide, by decide⟩ (by decide) kw_651 kw_777 trivial de_X10_kitchen (by decide +kernel) lk_X10_kitchen
set_option maxRecDepth 20000 in
theorem de_X10_takeHalf : px_dec cX10_takeHalf (ls_X10_takeHalf ++ ll_X10_takeHalf) := by unfold px_dec; decide +kernel
set_option maxRecDepth 20000 in
set_option maxHeartbeats 4000000 in
theorem lk_X10_takeHalf : ∀ q ∈ ll_X10_takeHalf, px_okR kt_mt kt_T vwCl kt_X yX10_takeHalf cX10_takeHalf q.1 q.2 := fun _ h => nomatch h
set_option maxRecDepth 20000 in
theorem ok_X10_takeHalf : px_okMt kt_mt kt_T vwCl kt_X M_X10_takeHalf := px_mk (M := M_X10_takeHalf) rfl (by decide) ⟨by decide, by decide⟩ (by decide) kw_651 kw_778 trivial de_X10_takeHalf (by decide +kernel) lk_X10_takeHalf
set_option maxRecDepth 20000 in
theorem de_X10_takeOver : px_dec cX10_takeOver (ls_X10_takeOver ++ ll_X10_takeOver) := by unfold px_dec; decide +kernel
set_option maxRecDepth 20000 in
set_option maxHeartbeats 4000000 in
theorem lk_X10_takeOver : ∀ q ∈ ll_X10_takeOver, px_okR kt_mt kt_T vwCl kt_X yX10_takeOver cX10_takeOver q.1 q.2 := List.forall_mem_cons.mpr ⟨px_k_get fk_X10_40, List.forall_mem_cons.mpr ⟨px_k_sta (by decide) mt_167 ⟨kw_779, kw_780, pd_167⟩, List.forall_mem_cons.mpr ⟨px_k_get fk_X10_44, List.forall_mem_cons.mpr ⟨px_k_sta (by decide) mt_167 ⟨kw_779, kw_780, pd_167⟩, List.forall_mem_cons.mpr ⟨px_k_get fk_X10_47, List.forall_mem_cons.mpr ⟨px_k_sta (by decide) mt_167 ⟨kw_779, kw_780, pd_167⟩, List.forall_mem_cons.mpr ⟨px_k_get fk_X10_50, List.forall_mem_cons.mpr ⟨px_k_sta (by decide) mt_167 ⟨kw_779, kw_780, pd_167⟩, List.forall_mem_cons.mpr ⟨px_k_get fk_X10_53, List.forall_mem_cons.mpr ⟨px_k_sta (by decide) mt_167 ⟨kw_779, kw_780, pd_167⟩, List.forall_mem_cons.mpr ⟨px_k_get fk_X10_56, List.forall_mem_cons.mpr ⟨px_k_sta (by decide) mt_167 ⟨kw_779, kw_780, pd_167⟩, List.forall_mem_cons.mpr ⟨px_k_get fk_X10_59, List.forall_mem_cons.mpr ⟨px_k_sta (by decide) mt_167 ⟨kw_779, kw_780, pd_167⟩, List.forall_mem_cons.mpr ⟨px_k_get fk_X10_62, List.forall_mem_cons.mpr ⟨px_k_sta (by decide) mt_167 ⟨kw_779, kw_780, pd_167⟩, List.forall_mem_cons.mpr ⟨px_k_get fk_X10_65, List.forall_mem_cons.mpr ⟨px_k_sta (by decide) mt_167 ⟨kw_779, kw_780, pd_167⟩, List.forall_mem_cons.mpr ⟨px_k_get fk_X10_68, List.forall_mem_cons.mpr ⟨px_k_sta (by decide) mt_167 ⟨kw_779, kw_780, pd_167⟩, List.forall_mem_cons.mpr ⟨px_k_put pk_X10_298, List.forall_mem_cons.mpr ⟨px_k_get fk_X10_81, List.forall_mem_cons.mpr ⟨px_k_get fk_X10_84, List.forall_mem_cons.mpr ⟨px_k_get fk_X10_86, List.forall_mem_cons.mpr ⟨px_k_get fk_X10_40, List.forall_mem_cons.mpr ⟨px_k_get fk_X10_53, List.forall_mem_cons.mpr ⟨px_k_get fk_X10_88, List.forall_mem_cons.mpr ⟨px_k_get fk_X10_40, List.forall_mem_cons.mpr ⟨px_k_get fk_X10_56, List.forall_mem_cons.mpr ⟨px_k_get fk_X10_90, List.forall_mem_cons.mpr ⟨px_k_get fk_X10_92, List.forall_mem_cons.mpr ⟨px_k_get fk_X10_94, List.forall_mem_cons.mpr ⟨px_k_put pk_X10_301, List.forall_mem_cons.mpr ⟨px_k_put pk_X10_304, List.forall_mem_cons.mpr ⟨px_k_put pk_X10_307, fun _ h => nomatch h⟩⟩⟩⟩⟩⟩⟩⟩⟩⟩⟩⟩⟩⟩⟩⟩⟩⟩⟩⟩⟩⟩⟩⟩⟩⟩⟩⟩⟩⟩⟩⟩⟩⟩⟩
set_option maxRecDepth 20000 in
theorem ok_X10_takeOver : px_okMt kt_mt kt_T vwCl kt_X M_X10_takeOver := px_mk (M := M_X10_takeOver) rfl (by decide) ⟨by decide, by decide⟩ (by decide) kw_651 kw_785 trivial de_X10_takeOver (by decide +kernel) lk_X10_takeOver
set_option maxRecDepth 20000 in
theorem de_X10_fault : px_dec cX10_fault (ls_X10_fault ++ ll_X10_fault) := by unfold px_dec; decide +kernel
set_option maxRecDepth 20000 in
set_option maxHeartbeats 4000000 in
theorem lk_X10_fault : ∀ q ∈ ll_X10_fault, px_okR kt_mt kt_T vwCl kt_X yX10_fault cX10_fault q.1 q.2 := List.forall_mem_cons.mpr ⟨px_k_put pk_X10_149, List.forall_mem_cons.mpr ⟨px_k_get fk_X10_77, fun _ h => nomatch h⟩⟩
set_option maxRecDepth 20000 in
theorem ok_X10_fault : px_okMt kt_mt kt_T vwCl kt_X M_X10_fault := px_mk (M := M_X10_fault) rfl (by decide) ⟨by decide, by decide⟩ (by decide) kw_651 kw_786 trivial de_X10_fault (by decide +kernel) lk_X10_fault
set_option maxRecDepth 20000 in
theorem de_X10_pack : px_dec cX10_pack (ls_X10_pack ++ ll_X10_pack) := by unfold px_dec; decide +kernel
set_option maxRecDepth 20000 in
set_option maxHeartbeats 4000000 in
theorem lk_X10_pack : ∀ q ∈ ll_X10_pack, px_okR kt_mt kt_T vwCl kt_X yX10_pack cX10_pack q.1 q.2 := List.forall_mem_cons.mpr ⟨px_k_get fk_X10_298, List.forall_mem_cons.mpr ⟨px_k_get fk_X10_81, List.forall_mem_cons.mpr ⟨px_k_get fk_X10_84, List.forall_mem_cons.mpr ⟨px_k_get fk_X10_86, List.forall_mem_cons.mpr ⟨px_k_get fk_X10_88, List.forall_mem_cons.mpr ⟨px_k_get fk_X10_90, List.forall_mem_cons.mpr ⟨px_k_get fk_X10_92, List.forall_mem_cons.mpr ⟨px_k_get fk_X10_94, fun _ h => nomatch h⟩⟩⟩⟩⟩⟩⟩⟩
set_option maxRecDepth 20000 in
theorem ok_X10_pack : px_okMt kt_mt kt_T vwCl kt_X M_X10_pack := px_mk (M := M_X10_pack) rfl (by decide) ⟨by decide, by decide⟩ (by decide) kw_651 kw_787 trivial de_X10_pack (by decide +kernel) lk_X10_pack
set_option maxRecDepth 20000 in
theorem de_X10_unpack : px_dec cX10_unpack (ls_X10_unpack ++ ll_X10_unpack) := by unfold px_dec; decide +kernel
set_option maxRecDepth 20000 in
set_option maxHeartbeats 4000000 in
theorem lk_X10_unpack : ∀ q ∈ ll_X10_unpack, px_okR kt_mt kt_T vwCl kt_X yX10_unpack cX10_unpack q.1 q.2 := List.forall_mem_cons.mpr ⟨px_k_put pk_X10_298, List.forall_mem_cons.mpr ⟨px_k_get fk_X10_81, List.forall_mem_cons.mpr ⟨px_k_get fk_X10_84, List.forall_mem_cons.mpr ⟨px_k_get fk_X10_86, List.forall_mem_cons.mpr ⟨px_k_get fk_X10_88, List.forall_mem_cons.mpr ⟨px_k_get fk_X10_90, List.forall_mem_cons.mpr ⟨px_k_get fk_X10_92, List.forall_mem_cons.mpr ⟨px_k_get fk_X10_94, fun _ h => nomatch h⟩⟩⟩⟩⟩⟩⟩⟩
set_option maxRecDepth 20000 in
theorem ok_X10_unpack : px_okMt kt_mt kt_T vwCl kt_X M_X10_unpack := px_mk (M := M_X10_unpack) rfl (by decide) ⟨by decide, by decide⟩ (by decide) kw_651 kw_788 trivial de_X10_unpack (by decide +kernel) lk_X10_unpack
set_option maxRecDepth 20000 in
theorem de_X10_reckon : px_dec cX10_reckon (ls_X10_reckon ++ ll_X10_reckon) := by unfold px_dec; decide +kernel
set_option maxRecDepth 20000 in
set_option maxHeartbeats 4000000 in
theorem lk_X10_reckon : ∀ q ∈ ll_X10_reckon, px_okR kt_mt kt_T vwCl kt_X yX10_reckon cX10_reckon q.1 q.2 := fun _ h => nomatch h
set_option maxRecDepth 20000 in
theorem ok_X10_reckon : px_okMt kt_mt kt_T vwCl kt_X M_X10_reckon := px_mk (M := M_X10_reckon) rfl (by decide) ⟨by decide, by decide⟩ (by decide) kw_651 kw_789 trivial de_X10_reckon (by decide +kernel) lk_X10_reckon
set_option maxRecDepth 20000 in
theorem de_X10_valueNow : px_dec cX10_valueNow (ls_X10_valueNow ++ ll_X10_valueNow) := by unfold px_dec; decide +kernel
set_option maxRecDepth 20000 in
set_option maxHeartbeats 4000000 in
theorem lk_X10_valueNow : ∀ q ∈ ll_X10_valueNow, px_okR kt_mt kt_T vwCl kt_X yX10_valueNow cX10_valueNow q.1 q.2 := List.forall_mem_cons.mpr ⟨px_k_get fk_X10_40, List.forall_mem_cons.mpr ⟨px_k_get fk_X10_68, List.forall_mem_cons.mpr ⟨px_k_get fk_X10_103, List.forall_mem_cons.mpr ⟨px_k_get fk_X10_100, List.forall_mem_cons.mpr ⟨px_k_get fk_X10_103, List.forall_mem_cons.mpr ⟨px_k_get fk_X10_103, List.forall_mem_cons.mpr ⟨px_k_get fk_X10_103, List.forall_mem_cons.mpr ⟨px_k_get fk_X10_103, List.forall_mem_cons.mpr ⟨px_k_get fk_X10_103, List.forall_mem_cons.mpr ⟨px_k_sta (by decide) mt_172 ⟨kw_790, kw_791, pd_172⟩, List.forall_mem_cons.mpr ⟨px_k_get fk_X10_103, fun _ h => nomatch h⟩⟩⟩⟩⟩⟩⟩⟩⟩⟩⟩
set_option maxRecDepth 20000 in
theorem ok_X10_valueNow : px_okMt kt_mt kt_T vwCl kt_X M_X10_valueNow := px_mk (M := M_X10_valueNow) rfl (by decide) ⟨by decide, by decide⟩ (by decide) kw_651 kw_792 trivial de_X10_valueNow (by decide +kernel) lk_X10_valueNow
set_option maxRecDepth 20000 in
theorem de_X10_hotter : px_dec cX10_hotter (ls_X10_hotter ++ ll_X10_hotter) := by unfold px_dec; decide +kernel
set_option maxRecDepth 20000 in
set_option maxHeartbeats 4000000 in
theorem lk_X10_hotter : ∀ q ∈ ll_X10_hotter, px_okR kt_mt kt_T vwCl kt_X yX10_hotter cX10_hotter q.1 q.2 := List.forall_mem_cons.mpr ⟨px_k_get fk_X10_84, List.forall_mem_cons.mpr ⟨px_k_get fk_X10_86, List.forall_mem_cons.mpr ⟨px_k_get fk_X10_44, List.forall_mem_cons.mpr ⟨px_k_max kt_no1001 ⟨kw_793, kw_130, kw_131, kw_132⟩, List.forall_mem_cons.mpr ⟨px_k_min kt_no1002 ⟨kw_683, kw_134, kw_131, kw_135⟩, fun _ h => nomatch h⟩⟩⟩⟩⟩
set_option maxRecDepth 20000 in
theorem ok_X10_hotter : px_okMt kt_mt kt_T vwCl kt_X M_X10_hotter := px_mk (M := M_X10_hotter) rfl (by decide) ⟨by decide, by decide⟩ (by decide) kw_651 kw_794 trivial de_X10_hotter (by decide +kernel) lk_X10_hotter
set_option maxRecDepth 20000 in
theorem de_X10_colder : px_dec cX10_colder (ls_X10_colder ++ ll_X10_colder) := by unfold px_dec; decide +kernel
set_option maxRecDepth 20000 in
set_option maxHeartbeats 4000000 in
theorem lk_X10_colder : ∀ q ∈ ll_X10_colder, px_okR kt_mt kt_T vwCl kt_X yX10_colder cX10_colder q.1 q.2 := List.forall_mem_cons.mpr ⟨px_k_get fk_X10_84, List.forall_mem_cons.mpr ⟨px_k_get fk_X10_44, List.forall_mem_cons.mpr ⟨px_k_max kt_no1001 ⟨kw_793, kw_130, kw_131, kw_132⟩, fun _ h => nomatch h⟩⟩⟩
set_option maxRecDepth 20000 in
theorem ok_X10_colder : px_okMt kt_mt kt_T vwCl kt_X M_X10_colder := px_mk (M := M_X10_colder) rfl (by decide) ⟨by decide, by decide⟩ (by decide) kw_651 kw_795 trivial de_X10_colder (by decide +kernel) lk_X10_colder
set_option maxRecDepth 20000 in
theorem de_X10_noteBy : px_dec cX10_noteBy (ls_X10_noteBy ++ ll_X10_noteBy) := by unfold px_dec; decide +kernel
set_option maxRecDepth 20000 in
set_option maxHeartbeats 4000000 in
theorem lk_X10_noteBy : ∀ q ∈ ll_X10_noteBy, px_okR kt_mt kt_T vwCl kt_X yX10_noteBy cX10_noteBy q.1 q.2 := List.forall_mem_cons.mpr ⟨px_k_get fk_X10_47, List.forall_mem_cons.mpr ⟨px_k_get fk_X10_50, List.forall_mem_cons.mpr ⟨px_k_get fk_X10_88, List.forall_mem_cons.mpr ⟨px_k_get fk_X10_44, List.forall_mem_cons.mpr ⟨px_k_min kt_no1002 ⟨kw_683, kw_134, kw_131, kw_135⟩, List.forall_mem_cons.mpr ⟨px_k_max kt_no1001 ⟨kw_793, kw_130, kw_131, kw_132⟩, fun _ h => nomatch h⟩⟩⟩⟩⟩⟩
set_option maxRecDepth 20000 in
theorem ok_X10_noteBy : px_okMt kt_mt kt_T vwCl kt_X M_X10_noteBy := px_mk (M := M_X10_noteBy) rfl (by decide) ⟨by decide, by decide⟩ (by decide) kw_651 kw_796 trivial de_X10_noteBy (by decide +kernel) lk_X10_noteBy
set_option maxRecDepth 20000 in
theorem de_X10_canSing : px_dec cX10_canSing (ls_X10_canSing ++ ll_X10_canSing) := by unfold px_dec; decide +kernel
set_option maxRecDepth 20000 in
set_option maxHeartbeats 4000000 in
theorem lk_X10_canSing : ∀ q ∈ ll_X10_canSing, px_okR kt_mt kt_T vwCl kt_X yX10_canSing cX10_canSing q.1 q.2 := List.forall_mem_cons.mpr ⟨px_k_get fk_X10_86, List.forall_mem_cons.mpr ⟨px_k_get fk_X10_86, List.forall_mem_cons.mpr ⟨px_k_get fk_X10_50, List.forall_mem_cons.mpr ⟨px_k_get fk_X10_88, fun _ h => nomatch h⟩⟩⟩⟩
set_option maxRecDepth 20000 in
theorem ok_X10_canSing : px_okMt kt_mt kt_T vwCl kt_X M_X10_canSing := px_mk (M := M_X10_canSing) rfl (by decide) ⟨by decide, by decide⟩ (by decide) kw_651 kw_797 trivial de_X10_canSing (by decide +kernel) lk_X10_canSing
set_option maxRecDepth 20000 in
theorem de_X10_sing : px_dec cX10_sing (ls_X10_sing ++ ll_X10_sing) := by unfold px_dec; decide +kernel
set_option maxRecDepth 20000 in
set_option maxHeartbeats 4000000 in
theorem lk_X10_sing : ∀ q ∈ ll_X10_sing, px_okR kt_mt kt_T vwCl kt_X yX10_sing cX10_sing q.1 q.2 := List.forall_mem_cons.mpr ⟨px_k_get fk_X10_92, List.forall_mem_cons.mpr ⟨px_k_get fk_X10_84, List.forall_mem_cons.mpr ⟨px_k_vir (by decide) mt_177 ⟨rfl, kw_798, kw_799, kw_800, ⟨_, _, rfl⟩, pd_177⟩, List.forall_mem_cons.mpr ⟨px_k_get fk_X10_86, List.forall_mem_cons.mpr ⟨px_k_get fk_X10_84, List.forall_mem_cons.mpr ⟨px_k_vir (by decide) mt_176 ⟨rfl, kw_801, kw_802, kw_803, ⟨_, _, rfl⟩, pd_176⟩, List.forall_mem_cons.mpr ⟨px_k_get fk_X10_92, List.forall_mem_cons.mpr ⟨px_k_get fk_X10_90, fun _ h => nomatch h⟩⟩⟩⟩⟩⟩⟩⟩
set_option maxRecDepth 20000 in
theorem ok_X10_sing : px_okMt kt_mt kt_T vwCl kt_X M_X10_sing := px_mk (M := M_X10_sing) rfl (by decide) ⟨by decide, by decide⟩ (by decide) kw_651 kw_804 trivial de_X10_sing (by decide +kernel) lk_X10_sing
set_option maxRecDepth 20000 in
theorem de_X10_lose : px_dec cX10_lose (ls_X10_lose ++ ll_X10_lose) := by unfold px_dec; decide +kernel
set_option maxRecDepth 20000 in
set_option maxHeartbeats 4000000 in
theorem lk_X10_lose : ∀ q ∈ ll_X10_lose, px_okR kt_mt kt_T vwCl kt_X yX10_lose cX10_lose q.1 q.2 := List.forall_mem_cons.mpr ⟨px_k_get fk_X10_92, List.forall_mem_cons.mpr ⟨px_k_get fk_X10_298, List.forall_mem_cons.mpr ⟨px_k_get fk_X10_86, List.forall_mem_cons.mpr ⟨px_k_get fk_X10_86, List.forall_mem_cons.mpr ⟨px_k_get fk_X10_88, List.forall_mem_cons.mpr ⟨px_k_get fk_X10_88, List.forall_mem_cons.mpr ⟨px_k_min kt_no1002 ⟨kw_683, kw_134, kw_131, kw_135⟩, fun _ h => nomatch h⟩⟩⟩⟩⟩⟩⟩
set_option maxRecDepth 20000 in
theorem ok_X10_lose : px_okMt kt_mt kt_T vwCl kt_X M_X10_lose := px_mk (M := M_X10_lose) rfl (by decide) ⟨by decide, by decide⟩ (by decide) kw_651 kw_805 trivial de_X10_lose (by decide +kernel) lk_X10_lose
set_option maxRecDepth 20000 in
theorem de_X10_isSung : px_dec cX10_isSung (ls_X10_isSung ++ ll_X10_isSung) := by unfold px_dec; decide +kernel
set_option maxRecDepth 20000 in
set_option maxHeartbeats 4000000 in
theorem lk_X10_isSung : ∀ q ∈ ll_X10_isSung, px_okR kt_mt kt_T vwCl kt_X yX10_isSung cX10_isSung q.1 q.2 := List.forall_mem_cons.mpr ⟨px_k_get fk_X10_40, List.forall_mem_cons.mpr ⟨px_k_get fk_X10_92, List.forall_mem_cons.mpr ⟨px_k_get fk_X10_92, fun _ h => nomatch h⟩⟩⟩
set_option maxRecDepth 20000 in
theorem ok_X10_isSung : px_okMt kt_mt kt_T vwCl kt_X M_X10_isSung := px_mk (M := M_X10_isSung) rfl (by decide) ⟨by decide, by decide⟩ (by decide) kw_651 kw_806 trivial de_X10_isSung (by decide +kernel) lk_X10_isSung
set_option maxRecDepth 20000 in
theorem de_X10_isChord : px_dec cX10_isChord (ls_X10_isChord ++ ll_X10_isChord) := by unfold px_dec; decide +kernel
set_option maxRecDepth 20000 in
set_option maxHeartbeats 4000000 in
theorem lk_X10_isChord : ∀ q ∈ ll_X10_isChord, px_okR kt_mt kt_T vwCl kt_X yX10_isChord cX10_isChord q.1 q.2 := List.forall_mem_cons.mpr ⟨px_k_vir (by decide) mt_180 ⟨rfl, kw_807, kw_808, kw_809, ⟨_, _, rfl⟩, pd_180⟩, List.forall_mem_cons.mpr ⟨px_k_get fk_X10_62, List.forall_mem_cons.mpr ⟨px_k_get fk_X10_65, List.forall_mem_cons.mpr ⟨px_k_vir (by decide) mt_180 ⟨rfl, kw_807, kw_808, kw_809, ⟨_, _, rfl⟩, pd_180⟩, fun _ h => nomatch h⟩⟩⟩⟩
set_option maxRecDepth 20000 in
theorem ok_X10_isChord : px_okMt kt_mt kt_T vwCl kt_X M_X10_isChord := px_mk (M := M_X10_isChord) rfl (by decide) ⟨by decide, by decide⟩ (by decide) kw_651 kw_810 trivial de_X10_isChord (by decide +kernel) lk_X10_isChord
set_option maxRecDepth 20000 in
theorem de_X10_singers : px_dec cX10_singers (ls_X10_singers ++ ll_X10_singers) := by unfold px_dec; decide +kernel
set_option maxRecDepth 20000 in
set_option maxHeartbeats 4000000 in
theorem lk_X10_singers : ∀ q ∈ ll_X10_singers, px_okR kt_mt kt_T vwCl kt_X yX10_singers cX10_singers q.1 q.2 := List.forall_mem_cons.mpr ⟨px_k_get fk_X10_40, List.forall_mem_cons.mpr ⟨px_k_get fk_X10_92, fun _ h => nomatch h⟩⟩
set_option maxRecDepth 20000 in
theorem ok_X10_singers : px_okMt kt_mt kt_T vwCl kt_X M_X10_singers := px_mk (M := M_X10_singers) rfl (by decide) ⟨by decide, by decide⟩ (by decide) kw_651 kw_811 trivial de_X10_singers (by decide +kernel) lk_X10_singers
set_option maxRecDepth 20000 in
theorem de_X10_bitsOf : px_dec cX10_bitsOf (ls_X10_bitsOf ++ ll_X10_bitsOf) := by unfold px_dec; decide +kernel
set_option maxRecDepth 20000 in
set_option maxHeartbeats 4000000 in
theorem lk_X10_bitsOf : ∀ q ∈ ll_X10_bitsOf, px_okR kt_mt kt_T vwCl kt_X yX10_bitsOf cX10_bitsOf q.1 q.2 := fun _ h => nomatch h
set_option maxRecDepth 20000 in
theorem ok_X10_bitsOf : px_okMt kt_mt kt_T vwCl kt_X M_X10_bitsOf := px_mk (M := M_X10_bitsOf) rfl (by decide) ⟨by decide, by decide⟩ (by decide) kw_651 kw_812 trivial de_X10_bitsOf (by decide +kernel) lk_X10_bitsOf
set_option maxRecDepth 20000 in
theorem de_X10_isLifted : px_dec cX10_isLifted (ls_X10_isLifted ++ ll_X10_isLifted) := by unfold px_dec; decide +kernel
set_option maxRecDepth 20000 in
set_option maxHeartbeats 4000000 in
theorem lk_X10_isLifted : ∀ q ∈ ll_X10_isLifted, px_okR kt_mt kt_T vwCl kt_X yX10_isLifted cX10_isLifted q.1 q.2 := List.forall_mem_cons.mpr ⟨px_k_get fk_X10_100, List.forall_mem_cons.mpr ⟨px_k_get fk_X10_92, List.forall_mem_cons.mpr ⟨px_k_max kt_no1001 ⟨kw_793, kw_130, kw_131, kw_132⟩, List.forall_mem_cons.mpr ⟨px_k_get fk_X10_100, List.forall_mem_cons.mpr ⟨px_k_get fk_X10_90, List.forall_mem_cons.mpr ⟨px_k_get fk_X10_100, List.forall_mem_cons.mpr ⟨px_k_get fk_X10_92, List.forall_mem_cons.mpr ⟨px_k_get fk_X10_92, List.forall_mem_cons.mpr ⟨px_k_vir (by decide) mt_180 ⟨rfl, kw_807, kw_808, kw_809, ⟨_, _, rfl⟩, pd_180⟩, List.forall_mem_cons.mpr ⟨px_k_get fk_X10_92, List.forall_mem_cons.mpr ⟨px_k_vir (by decide) mt_180 ⟨rfl, kw_807, kw_808, kw_809, ⟨_, _, rfl⟩, pd_180⟩, List.forall_mem_cons.mpr ⟨px_k_get fk_X10_100, List.forall_mem_cons.mpr ⟨px_k_get fk_X10_84, List.forall_mem_cons.mpr ⟨px_k_get fk_X10_100, List.forall_mem_cons.mpr ⟨px_k_get fk_X10_86, List.forall_mem_cons.mpr ⟨px_k_get fk_X10_100, List.forall_mem_cons.mpr ⟨px_k_get fk_X10_88, List.forall_mem_cons.mpr ⟨px_k_get fk_X10_100, List.forall_mem_cons.mpr ⟨px_k_vir (by decide) mt_182 ⟨rfl, kw_813, kw_814, kw_815, ⟨_, _, rfl⟩, pd_182⟩, List.forall_mem_cons.mpr ⟨px_k_sta (by decide) mt_183 ⟨kw_816, kw_817, pd_183⟩, List.forall_mem_cons.mpr ⟨px_k_vir (by decide) mt_173 ⟨rfl, kw_818, kw_819, kw_820, ⟨_, _, rfl⟩, pd_173⟩, fun _ h => nomatch h⟩⟩⟩⟩⟩⟩⟩⟩⟩⟩⟩⟩⟩⟩⟩⟩⟩⟩⟩⟩⟩
set_option maxRecDepth 20000 in
theorem ok_X10_isLifted : px_okMt kt_mt kt_T vwCl kt_X M_X10_isLifted := px_mk (M := M_X10_isLifted) rfl (by decide) ⟨by decide, by decide⟩ (by decide) kw_651 kw_821 trivial de_X10_isLifted (by decide +kernel) lk_X10_isLifted
set_option maxRecDepth 20000 in
theorem de_X10_aMinute : px_dec cX10_aMinute (ls_X10_aMinute ++ ll_X10_aMinute) := by unfold px_dec; decide +kernel
set_option maxRecDepth 20000 in
set_option maxHeartbeats 4000000 in
theorem lk_X10_aMinute : ∀ q ∈ ll_X10_aMinute, px_okR kt_mt kt_T vwCl kt_X yX10_aMinute cX10_aMinute q.1 q.2 := List.forall_mem_cons.mpr ⟨px_k_get fk_X10_40, List.forall_mem_cons.mpr ⟨px_k_get fk_X10_84, List.forall_mem_cons.mpr ⟨px_k_get fk_X10_81, List.forall_mem_cons.mpr ⟨px_k_vir (by decide) mt_175 ⟨rfl, kw_822, kw_823, kw_824, ⟨_, _, rfl⟩, pd_175⟩, List.forall_mem_cons.mpr ⟨px_k_get fk_X10_59, List.forall_mem_cons.mpr ⟨px_k_get fk_X10_81, List.forall_mem_cons.mpr ⟨px_k_vir (by decide) mt_174 ⟨rfl, kw_825, kw_826, kw_827, ⟨_, _, rfl⟩, pd_174⟩, List.forall_mem_cons.mpr ⟨px_k_get fk_X10_40, List.forall_mem_cons.mpr ⟨px_k_vir (by decide) mt_178 ⟨rfl, kw_828, kw_829, kw_830, ⟨_, _, rfl⟩, pd_178⟩, List.forall_mem_cons.mpr ⟨px_k_get fk_X10_40, List.forall_mem_cons.mpr ⟨px_k_get fk_X10_94, List.forall_mem_cons.mpr ⟨px_k_vir (by decide) mt_181 ⟨rfl, kw_831, kw_832, kw_833, ⟨_, _, rfl⟩, pd_181⟩, List.forall_mem_cons.mpr ⟨px_k_get fk_X10_94, List.forall_mem_cons.mpr ⟨px_k_get fk_X10_298, List.forall_mem_cons.mpr ⟨px_k_get fk_X10_40, List.forall_mem_cons.mpr ⟨px_k_vir (by decide) mt_179 ⟨rfl, kw_834, kw_835, kw_836, ⟨_, _, rfl⟩, pd_179⟩, List.forall_mem_cons.mpr ⟨px_k_get fk_X10_40, List.forall_mem_cons.mpr ⟨px_k_get fk_X10_40, List.forall_mem_cons.mpr ⟨px_k_get fk_X10_81, List.forall_mem_cons.mpr ⟨px_k_vir (by decide) mt_184 ⟨rfl, kw_837, kw_838, kw_839, ⟨_, _, rfl⟩, pd_184⟩, List.forall_mem_cons.mpr ⟨px_k_get fk_X10_81, List.forall_mem_cons.mpr ⟨px_k_get fk_X10_298, List.forall_mem_cons.mpr ⟨px_k_put pk_X10_298, fun _ h => nomatch h⟩⟩⟩⟩⟩⟩⟩⟩⟩⟩⟩⟩⟩⟩⟩⟩⟩⟩⟩⟩⟩⟩⟩
set_option maxRecDepth 20000 in
theorem ok_X10_aMinute : px_okMt kt_mt kt_T vwCl kt_X M_X10_aMinute := px_mk (M := M_X10_aMinute) rfl (by decide) ⟨by decide, by decide⟩ (by decide) kw_651 kw_840 trivial de_X10_aMinute (by decide +kernel) lk_X10_aMinute
set_option maxRecDepth 20000 in
theorem de_X10_lids : px_dec cX10_lids (ls_X10_lids ++ ll_X10_lids) := by unfold px_dec; decide +kernel
set_option maxRecDepth 20000 in
set_option maxHeartbeats 4000000 in
theorem lk_X10_lids : ∀ q ∈ ll_X10_lids, px_okR kt_mt kt_T vwCl kt_X yX10_lids cX10_lids q.1 q.2 := List.forall_mem_cons.mpr ⟨px_k_get fk_X10_40, List.forall_mem_cons.mpr ⟨px_k_get fk_X10_84, fun _ h => nomatch h⟩⟩
set_option maxRecDepth 20000 in
theorem ok_X10_lids : px_okMt kt_mt kt_T vwCl kt_X M_X10_lids := px_mk (M := M_X10_lids) rfl (by decide) ⟨by decide, by decide⟩ (by decide) kw_651 kw_841 trivial de_X10_lids (by decide +kernel) lk_X10_lids
set_option maxRecDepth 20000 in
theorem de_X10_thirds : px_dec cX10_thirds (ls_X10_thirds ++ ll_X10_thirds) := by unfold px_dec; decide +kernel
set_option maxRecDepth 20000 in
set_option maxHeartbeats 4000000 in
theorem lk_X10_thirds : ∀ q ∈ ll_X10_thirds, px_okR kt_mt kt_T vwCl kt_X yX10_thirds cX10_thirds q.1 q.2 := List.forall_mem_cons.mpr ⟨px_k_get fk_X10_40, List.forall_mem_cons.mpr ⟨px_k_get fk_X10_40, List.forall_mem_cons.mpr ⟨px_k_get fk_X10_92, List.forall_mem_cons.mpr ⟨px_k_get fk_X10_92, List.forall_mem_cons.mpr ⟨px_k_get fk_X10_92, List.forall_mem_cons.mpr ⟨px_k_get fk_X10_92, List.forall_mem_cons.mpr ⟨px_k_ldc2 kw_842, List.forall_mem_cons.mpr ⟨px_k_ldc2 kw_843, List.forall_mem_cons.mpr ⟨px_k_sta (by decide) mt_136 ⟨kw_659, kw_660, pd_136⟩, fun _ h => nomatch h⟩⟩⟩⟩⟩⟩⟩⟩⟩
set_option maxRecDepth 20000 in
theorem ok_X10_thirds : px_okMt kt_mt kt_T vwCl kt_X M_X10_thirds := px_mk (M := M_X10_thirds) rfl (by decide) ⟨by decide, by decide⟩ (by decide) kw_651 kw_844 trivial de_X10_thirds (by decide +kernel) lk_X10_thirds
set_option maxRecDepth 20000 in
theorem de_X10_readySet : px_dec cX10_readySet (ls_X10_readySet ++ ll_X10_readySet) := by unfold px_dec; decide +kernel
set_option maxRecDepth 20000 in
set_option maxHeartbeats 4000000 in
theorem lk_X10_readySet : ∀ q ∈ ll_X10_readySet, px_okR kt_mt kt_T vwCl kt_X yX10_readySet cX10_readySet q.1 q.2 := List.forall_mem_cons.mpr ⟨px_k_get fk_X10_40, List.forall_mem_cons.mpr ⟨px_k_get fk_X10_94, fun _ h => nomatch h⟩⟩
set_option maxRecDepth 20000 in
theorem ok_X10_readySet : px_okMt kt_mt kt_T vwCl kt_X M_X10_readySet := px_mk (M := M_X10_readySet) rfl (by decide) ⟨by decide, by decide⟩ (by decide) kw_651 kw_845 trivial de_X10_readySet (by decide +kernel) lk_X10_readySet
set_option maxRecDepth 20000 in
theorem de_X10_count : px_dec cX10_count (ls_X10_count ++ ll_X10_count) := by unfold px_dec; decide +kernel
set_option maxRecDepth 20000 in
set_option maxHeartbeats 4000000 in
theorem lk_X10_count : ∀ q ∈ ll_X10_count, px_okR kt_mt kt_T vwCl kt_X yX10_count cX10_count q.1 q.2 := List.forall_mem_cons.mpr ⟨px_k_put pk_X10_149, List.forall_mem_cons.mpr ⟨px_k_get fk_X10_40, List.forall_mem_cons.mpr ⟨px_k_get fk_X10_298, List.forall_mem_cons.mpr ⟨px_k_vir (by decide) mt_182 ⟨rfl, kw_813, kw_814, kw_815, ⟨_, _, rfl⟩, pd_182⟩, List.forall_mem_cons.mpr ⟨px_k_vir (by decide) mt_188 ⟨rfl, kw_846, kw_847, kw_848, ⟨_, _, rfl⟩, pd_188⟩, List.forall_mem_cons.mpr ⟨px_k_vir (by decide) mt_186 ⟨rfl, kw_849, kw_850, kw_851, ⟨_, _, rfl⟩, pd_186⟩, List.forall_mem_cons.mpr ⟨px_k_vir (by decide) mt_186 ⟨rfl, kw_849, kw_850, kw_851, ⟨_, _, rfl⟩, pd_186⟩, List.forall_mem_cons.mpr ⟨px_k_vir (by decide) mt_182 ⟨rfl, kw_813, kw_814, kw_815, ⟨_, _, rfl⟩, pd_182⟩, List.forall_mem_cons.mpr ⟨px_k_vir (by decide) mt_187 ⟨rfl, kw_852, kw_853, kw_854, ⟨_, _, rfl⟩, pd_187⟩, List.forall_mem_cons.mpr ⟨px_k_get fk_X10_301, List.forall_mem_cons.mpr ⟨px_k_get fk_X10_304, List.forall_mem_cons.mpr ⟨px_k_get fk_X10_156, List.forall_mem_cons.mpr ⟨px_k_get fk_X10_71, List.forall_mem_cons.mpr ⟨px_k_vir (by decide) mt_134 ⟨rfl, kw_768, kw_769, kw_770, ⟨_, _, rfl⟩, pd_134⟩, fun _ h => nomatch h⟩⟩⟩⟩⟩⟩⟩⟩⟩⟩⟩⟩⟩⟩
set_option maxRecDepth 20000 in
theorem ok_X10_count : px_okMt kt_mt kt_T vwCl kt_X M_X10_count := px_mk (M := M_X10_count) rfl (by decide) ⟨by decide, by decide⟩ (by decide) kw_651 kw_855 trivial de_X10_count (by decide +kernel) lk_X10_count
set_option maxRecDepth 20000 in
theorem de_X10_kettle : px_dec cX10_kettle (ls_X10_kettle ++ ll_X10_kettle) := by unfold px_dec; decide +kernel
set_option maxRecDepth 20000 in
set_option maxHeartbeats 4000000 in
theorem lk_X10_kettle : ∀ q ∈ ll_X10_kettle, px_okR kt_mt kt_T vwCl kt_X yX10_kettle cX10_kettle q.1 q.2 := List.forall_mem_cons.mpr ⟨px_k_put pk_X10_149, List.forall_mem_cons.mpr ⟨px_k_vir (by decide) mt_138 ⟨rfl, kw_856, kw_857, kw_858, ⟨_, _, rfl⟩, pd_138⟩, List.forall_mem_cons.mpr ⟨px_k_vir (by decide) mt_134 ⟨rfl, kw_768, kw_769, kw_770, ⟨_, _, rfl⟩, pd_134⟩, List.forall_mem_cons.mpr ⟨px_k_get fk_X10_44, List.forall_mem_cons.mpr ⟨px_k_get fk_X10_47, List.forall_mem_cons.mpr ⟨px_k_get fk_X10_50, List.forall_mem_cons.mpr ⟨px_k_get fk_X10_86, List.forall_mem_cons.mpr ⟨px_k_get fk_X10_88, List.forall_mem_cons.mpr ⟨px_k_get fk_X10_84, List.forall_mem_cons.mpr ⟨px_k_get fk_X10_81, List.forall_mem_cons.mpr ⟨px_k_get fk_X10_90, List.forall_mem_cons.mpr ⟨px_k_get fk_X10_92, List.forall_mem_cons.mpr ⟨px_k_vir (by decide) mt_134 ⟨rfl, kw_768, kw_769, kw_770, ⟨_, _, rfl⟩, pd_134⟩, fun _ h => nomatch h⟩⟩⟩⟩⟩⟩⟩⟩⟩⟩⟩⟩⟩
set_option maxRecDepth 20000 in
theorem ok_X10_kettle : px_okMt kt_mt kt_T vwCl kt_X M_X10_kettle := px_mk (M := M_X10_kettle) rfl (by decide) ⟨by decide, by decide⟩ (by decide) kw_651 kw_859 trivial de_X10_kettle (by decide +kernel) lk_X10_kettle
set_option maxRecDepth 20000 in
theorem de_X10_kettleOn : px_dec cX10_kettleOn (ls_X10_kettleOn ++ ll_X10_kettleOn) := by unfold px_dec; decide +kernel
set_option maxRecDepth 20000 in
set_option maxHeartbeats 4000000 in
theorem lk_X10_kettleOn : ∀ q ∈ ll_X10_kettleOn, px_okR kt_mt kt_T vwCl kt_X yX10_kettleOn cX10_kettleOn q.1 q.2 := List.forall_mem_cons.mpr ⟨px_k_get fk_X10_40, List.forall_mem_cons.mpr ⟨px_k_get fk_X10_81, fun _ h => nomatch h⟩⟩
set_option maxRecDepth 20000 in
theorem ok_X10_kettleOn : px_okMt kt_mt kt_T vwCl kt_X M_X10_kettleOn := px_mk (M := M_X10_kettleOn) rfl (by decide) ⟨by decide, by decide⟩ (by decide) kw_651 kw_860 trivial de_X10_kettleOn (by decide +kernel) lk_X10_kettleOn
set_option maxRecDepth 20000 in
theorem de_X10_stove : px_dec cX10_stove (ls_X10_stove ++ ll_X10_stove) := by unfold px_dec; decide +kernel
set_option maxRecDepth 20000 in
set_option maxHeartbeats 4000000 in
theorem lk_X10_stove : ∀ q ∈ ll_X10_stove, px_okR kt_mt kt_T vwCl kt_X yX10_stove cX10_stove q.1 q.2 := List.forall_mem_cons.mpr ⟨px_k_put pk_X10_149, List.forall_mem_cons.mpr ⟨px_k_vir (by decide) mt_139 ⟨rfl, kw_861, kw_862, kw_863, ⟨_, _, rfl⟩, pd_139⟩, List.forall_mem_cons.mpr ⟨px_k_vir (by decide) mt_134 ⟨rfl, kw_768, kw_769, kw_770, ⟨_, _, rfl⟩, pd_134⟩, List.forall_mem_cons.mpr ⟨px_k_get fk_X10_59, List.forall_mem_cons.mpr ⟨px_k_vir (by decide) mt_191 ⟨rfl, kw_864, kw_865, kw_866, ⟨_, _, rfl⟩, pd_191⟩, fun _ h => nomatch h⟩⟩⟩⟩⟩
set_option maxRecDepth 20000 in
theorem ok_X10_stove : px_okMt kt_mt kt_T vwCl kt_X M_X10_stove := px_mk (M := M_X10_stove) rfl (by decide) ⟨by decide, by decide⟩ (by decide) kw_651 kw_867 trivial de_X10_stove (by decide +kernel) lk_X10_stove
set_option maxRecDepth 20000 in
theorem de_X10_dish : px_dec cX10_dish (ls_X10_dish ++ ll_X10_dish) := by unfold px_dec; decide +kernel
set_option maxRecDepth 20000 in
set_option maxHeartbeats 4000000 in
theorem lk_X10_dish : ∀ q ∈ ll_X10_dish, px_okR kt_mt kt_T vwCl kt_X yX10_dish cX10_dish q.1 q.2 := List.forall_mem_cons.mpr ⟨px_k_put pk_X10_149, List.forall_mem_cons.mpr ⟨px_k_vir (by decide) mt_140 ⟨rfl, kw_868, kw_869, kw_870, ⟨_, _, rfl⟩, pd_140⟩, List.forall_mem_cons.mpr ⟨px_k_ldc2 kw_871, List.forall_mem_cons.mpr ⟨px_k_get fk_X10_62, List.forall_mem_cons.mpr ⟨px_k_sta (by decide) mt_136 ⟨kw_659, kw_660, pd_136⟩, List.forall_mem_cons.mpr ⟨px_k_vir (by decide) mt_134 ⟨rfl, kw_768, kw_769, kw_770, ⟨_, _, rfl⟩, pd_134⟩, List.forall_mem_cons.mpr ⟨px_k_get fk_X10_94, List.forall_mem_cons.mpr ⟨px_k_get fk_X10_62, List.forall_mem_cons.mpr ⟨px_k_get fk_X10_65, fun _ h => nomatch h⟩⟩⟩⟩⟩⟩⟩⟩⟩
set_option maxRecDepth 20000 in
theorem ok_X10_dish : px_okMt kt_mt kt_T vwCl kt_X M_X10_dish := px_mk (M := M_X10_dish) rfl (by decide) ⟨by decide, by decide⟩ (by decide) kw_651 kw_872 trivial de_X10_dish (by decide +kernel) lk_X10_dish
set_option maxRecDepth 20000 in
theorem de_X10_refuse : px_dec cX10_refuse (ls_X10_refuse ++ ll_X10_refuse) := by unfold px_dec; decide +kernel
set_option maxRecDepth 20000 in
set_option maxHeartbeats 4000000 in
theorem lk_X10_refuse : ∀ q ∈ ll_X10_refuse, px_okR kt_mt kt_T vwCl kt_X yX10_refuse cX10_refuse q.1 q.2 := List.forall_mem_cons.mpr ⟨px_k_get fk_X10_71, fun _ h => nomatch h⟩
set_option maxRecDepth 20000 in
theorem ok_X10_refuse : px_okMt kt_mt kt_T vwCl kt_X M_X10_refuse := px_mk (M := M_X10_refuse) rfl (by decide) ⟨by decide, by decide⟩ (by decide) kw_651 kw_873 trivial de_X10_refuse (by decide +kernel) lk_X10_refuse
set_option maxRecDepth 20000 in
theorem de_X10_keep : px_dec cX10_keep (ls_X10_keep ++ ll_X10_keep) := by unfold px_dec; decide +kernel
set_option maxRecDepth 20000 in
set_option maxHeartbeats 4000000 in
theorem lk_X10_keep : ∀ q ∈ ll_X10_keep, px_okR kt_mt kt_T vwCl kt_X yX10_keep cX10_keep q.1 q.2 := List.forall_mem_cons.mpr ⟨px_k_get fk_X10_301, List.forall_mem_cons.mpr ⟨px_k_get fk_X10_97, List.forall_mem_cons.mpr ⟨px_k_get fk_X10_97, List.forall_mem_cons.mpr ⟨px_k_get fk_X10_97, List.forall_mem_cons.mpr ⟨px_k_get fk_X10_301, List.forall_mem_cons.mpr ⟨px_k_put pk_X10_301, List.forall_mem_cons.mpr ⟨px_k_get fk_X10_97, List.forall_mem_cons.mpr ⟨px_k_get fk_X10_301, List.forall_mem_cons.mpr ⟨px_k_vir (by decide) mt_170 ⟨rfl, kw_874, kw_875, kw_876, ⟨_, _, rfl⟩, pd_170⟩, List.forall_mem_cons.mpr ⟨px_k_get fk_X10_301, List.forall_mem_cons.mpr ⟨px_k_put pk_X10_301, fun _ h => nomatch h⟩⟩⟩⟩⟩⟩⟩⟩⟩⟩⟩
set_option maxRecDepth 20000 in
theorem ok_X10_keep : px_okMt kt_mt kt_T vwCl kt_X M_X10_keep := px_mk (M := M_X10_keep) rfl (by decide) ⟨by decide, by decide⟩ (by decide) kw_651 kw_877 trivial de_X10_keep (by decide +kernel) lk_X10_keep
set_option maxRecDepth 20000 in
theorem de_X10_minutes : px_dec cX10_minutes (ls_X10_minutes ++ ll_X10_minutes) := by unfold px_dec; decide +kernel
set_option maxRecDepth 20000 in
set_option maxHeartbeats 4000000 in
theorem lk_X10_minutes : ∀ q ∈ ll_X10_minutes, px_okR kt_mt kt_T vwCl kt_X yX10_minutes cX10_minutes q.1 q.2 := List.forall_mem_cons.mpr ⟨px_k_put pk_X10_149, List.forall_mem_cons.mpr ⟨px_k_ldc2 kw_878, List.forall_mem_cons.mpr ⟨px_k_sta (by decide) mt_136 ⟨kw_659, kw_660, pd_136⟩, List.forall_mem_cons.mpr ⟨px_k_get fk_X10_298, List.forall_mem_cons.mpr ⟨px_k_vir (by decide) mt_194 ⟨rfl, kw_879, kw_880, kw_881, ⟨_, _, rfl⟩, pd_194⟩, List.forall_mem_cons.mpr ⟨px_k_vir (by decide) mt_195 ⟨rfl, kw_882, kw_883, kw_884, ⟨_, _, rfl⟩, pd_195⟩, List.forall_mem_cons.mpr ⟨px_k_vir (by decide) mt_185 ⟨rfl, kw_885, kw_886, kw_887, ⟨_, _, rfl⟩, pd_185⟩, List.forall_mem_cons.mpr ⟨px_k_get fk_X10_298, fun _ h => nomatch h⟩⟩⟩⟩⟩⟩⟩⟩
set_option maxRecDepth 20000 in
theorem ok_X10_minutes : px_okMt kt_mt kt_T vwCl kt_X M_X10_minutes := px_mk (M := M_X10_minutes) rfl (by decide) ⟨by decide, by decide⟩ (by decide) kw_651 kw_888 trivial de_X10_minutes (by decide +kernel) lk_X10_minutes
set_option maxRecDepth 20000 in
theorem de_X10_put : px_dec cX10_put (ls_X10_put ++ ll_X10_put) := by unfold px_dec; decide +kernel
set_option maxRecDepth 20000 in
set_option maxHeartbeats 4000000 in
theorem lk_X10_put : ∀ q ∈ ll_X10_put, px_okR kt_mt kt_T vwCl kt_X yX10_put cX10_put q.1 q.2 := List.forall_mem_cons.mpr ⟨px_k_put pk_X10_149, List.forall_mem_cons.mpr ⟨px_k_vir (by decide) mt_138 ⟨rfl, kw_856, kw_857, kw_858, ⟨_, _, rfl⟩, pd_138⟩, List.forall_mem_cons.mpr ⟨px_k_vir (by decide) mt_139 ⟨rfl, kw_861, kw_862, kw_863, ⟨_, _, rfl⟩, pd_139⟩, List.forall_mem_cons.mpr ⟨px_k_vir (by decide) mt_135 ⟨rfl, kw_889, kw_890, kw_891, ⟨_, _, rfl⟩, pd_135⟩, List.forall_mem_cons.mpr ⟨px_k_vir (by decide) mt_191 ⟨rfl, kw_864, kw_865, kw_866, ⟨_, _, rfl⟩, pd_191⟩, List.forall_mem_cons.mpr ⟨px_k_get fk_X10_71, List.forall_mem_cons.mpr ⟨px_k_vir (by decide) mt_195 ⟨rfl, kw_882, kw_883, kw_884, ⟨_, _, rfl⟩, pd_195⟩, List.forall_mem_cons.mpr ⟨px_k_get fk_X10_81, fun _ h => nomatch h⟩⟩⟩⟩⟩⟩⟩⟩
set_option maxRecDepth 20000 in
theorem ok_X10_put : px_okMt kt_mt kt_T vwCl kt_X M_X10_put := px_mk (M := M_X10_put) rfl (by decide) ⟨by decide, by decide⟩ (by decide) kw_651 kw_892 trivial de_X10_put (by decide +kernel) lk_X10_put
set_option maxRecDepth 20000 in
theorem de_X10_lift : px_dec cX10_lift (ls_X10_lift ++ ll_X10_lift) := by unfold px_dec; decide +kernel
set_option maxRecDepth 20000 in
set_option maxHeartbeats 4000000 in
theorem lk_X10_lift : ∀ q ∈ ll_X10_lift, px_okR kt_mt kt_T vwCl kt_X yX10_lift cX10_lift q.1 q.2 := List.forall_mem_cons.mpr ⟨px_k_put pk_X10_149, List.forall_mem_cons.mpr ⟨px_k_vir (by decide) mt_138 ⟨rfl, kw_856, kw_857, kw_858, ⟨_, _, rfl⟩, pd_138⟩, List.forall_mem_cons.mpr ⟨px_k_vir (by decide) mt_134 ⟨rfl, kw_768, kw_769, kw_770, ⟨_, _, rfl⟩, pd_134⟩, List.forall_mem_cons.mpr ⟨px_k_get fk_X10_81, List.forall_mem_cons.mpr ⟨px_k_vir (by decide) mt_194 ⟨rfl, kw_879, kw_880, kw_881, ⟨_, _, rfl⟩, pd_194⟩, List.forall_mem_cons.mpr ⟨px_k_vir (by decide) mt_195 ⟨rfl, kw_882, kw_883, kw_884, ⟨_, _, rfl⟩, pd_195⟩, List.forall_mem_cons.mpr ⟨px_k_get fk_X10_81, List.forall_mem_cons.mpr ⟨px_k_get fk_X10_81, fun _ h => nomatch h⟩⟩⟩⟩⟩⟩⟩⟩
set_option maxRecDepth 20000 in
theorem ok_X10_lift : px_okMt kt_mt kt_T vwCl kt_X M_X10_lift := px_mk (M := M_X10_lift) rfl (by decide) ⟨by decide, by decide⟩ (by decide) kw_651 kw_893 trivial de_X10_lift (by decide +kernel) lk_X10_lift
set_option maxRecDepth 20000 in
theorem de_X10_pour : px_dec cX10_pour (ls_X10_pour ++ ll_X10_pour) := by unfold px_dec; decide +kernel
set_option maxRecDepth 20000 in
set_option maxHeartbeats 4000000 in
theorem lk_X10_pour : ∀ q ∈ ll_X10_pour, px_okR kt_mt kt_T vwCl kt_X yX10_pour cX10_pour q.1 q.2 := List.forall_mem_cons.mpr ⟨px_k_put pk_X10_149, List.forall_mem_cons.mpr ⟨px_k_vir (by decide) mt_138 ⟨rfl, kw_856, kw_857, kw_858, ⟨_, _, rfl⟩, pd_138⟩, List.forall_mem_cons.mpr ⟨px_k_vir (by decide) mt_134 ⟨rfl, kw_768, kw_769, kw_770, ⟨_, _, rfl⟩, pd_134⟩, List.forall_mem_cons.mpr ⟨px_k_get fk_X10_50, List.forall_mem_cons.mpr ⟨px_k_sta (by decide) mt_136 ⟨kw_659, kw_660, pd_136⟩, List.forall_mem_cons.mpr ⟨px_k_get fk_X10_86, List.forall_mem_cons.mpr ⟨px_k_vir (by decide) mt_194 ⟨rfl, kw_879, kw_880, kw_881, ⟨_, _, rfl⟩, pd_194⟩, List.forall_mem_cons.mpr ⟨px_k_vir (by decide) mt_195 ⟨rfl, kw_882, kw_883, kw_884, ⟨_, _, rfl⟩, pd_195⟩, List.forall_mem_cons.mpr ⟨px_k_get fk_X10_86, List.forall_mem_cons.mpr ⟨px_k_get fk_X10_84, List.forall_mem_cons.mpr ⟨px_k_get fk_X10_84, List.forall_mem_cons.mpr ⟨px_k_get fk_X10_86, List.forall_mem_cons.mpr ⟨px_k_get fk_X10_86, List.forall_mem_cons.mpr ⟨px_k_get fk_X10_84, fun _ h => nomatch h⟩⟩⟩⟩⟩⟩⟩⟩⟩⟩⟩⟩⟩⟩
set_option maxRecDepth 20000 in
theorem ok_X10_pour : px_okMt kt_mt kt_T vwCl kt_X M_X10_pour := px_mk (M := M_X10_pour) rfl (by decide) ⟨by decide, by decide⟩ (by decide) kw_651 kw_894 trivial de_X10_pour (by decide +kernel) lk_X10_pour
