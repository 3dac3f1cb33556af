/-! ===== printed by wip/whole/gen.py: the methods of the tables are right ===== -/
set_option maxRecDepth 20000 in
theorem de_X0_init : px_dec cX0_init (ls_X0_init ++ ll_X0_init) := by unfold px_dec; decide +kernel
set_option maxRecDepth 20000 in
set_option maxHeartbeats 4000000 in
theorem lk_X0_init : ∀ q ∈ ll_X0_init, px_okR kt_mt kt_T vwCl kt_X yX0_init cX0_init q.1 q.2 := List.forall_mem_cons.mpr ⟨px_k_obj kt_no1000 ⟨kw_0, kw_1, kw_2⟩, List.forall_mem_cons.mpr ⟨px_k_arr (Or.inl ⟨rfl, rfl, kw_3⟩), List.forall_mem_cons.mpr ⟨px_k_put pk_X0_9_X0_init, fun _ h => nomatch h⟩⟩⟩
set_option maxRecDepth 20000 in
theorem ok_X0_init : px_okMt kt_mt kt_T vwCl kt_X M_X0_init := px_mk (M := M_X0_init) rfl (by decide) ⟨by decide, by decide⟩ (by decide) kw_5 kw_6 trivial de_X0_init (by decide +kernel) lk_X0_init
set_option maxRecDepth 20000 in
theorem de_X0_clear : px_dec cX0_clear (ls_X0_clear ++ ll_X0_clear) := by unfold px_dec; decide +kernel
set_option maxRecDepth 20000 in
set_option maxHeartbeats 4000000 in
theorem lk_X0_clear : ∀ q ∈ ll_X0_clear, px_okR kt_mt kt_T vwCl kt_X yX0_clear cX0_clear q.1 q.2 := List.forall_mem_cons.mpr ⟨px_k_put pk_X0_15, List.forall_mem_cons.mpr ⟨px_k_put pk_X0_19, fun _ h => nomatch h⟩⟩
set_option maxRecDepth 20000 in
theorem ok_X0_clear : px_okMt kt_mt kt_T vwCl kt_X M_X0_clear := px_mk (M := M_X0_clear) rfl (by decide) ⟨by decide, by decide⟩ (by decide) kw_5 kw_9 trivial de_X0_clear (by decide +kernel) lk_X0_clear
set_option maxRecDepth 20000 in
theorem de_X0_push : px_dec cX0_push (ls_X0_push ++ ll_X0_push) := by unfold px_dec; decide +kernel
set_option maxRecDepth 20000 in
set_option maxHeartbeats 4000000 in
theorem lk_X0_push : ∀ q ∈ ll_X0_push, px_okR kt_mt kt_T vwCl kt_X yX0_push cX0_push q.1 q.2 := List.forall_mem_cons.mpr ⟨px_k_get fk_X0_19, List.forall_mem_cons.mpr ⟨px_k_get fk_X0_15, List.forall_mem_cons.mpr ⟨px_k_put pk_X0_15, List.forall_mem_cons.mpr ⟨px_k_get fk_X0_19, List.forall_mem_cons.mpr ⟨px_k_put pk_X0_19, List.forall_mem_cons.mpr ⟨px_k_get fk_X0_9, List.forall_mem_cons.mpr ⟨px_k_get fk_X0_15, List.forall_mem_cons.mpr ⟨px_k_get fk_X0_19, List.forall_mem_cons.mpr ⟨px_k_cpy kt_no1004 ⟨kw_10, kw_11, kw_12, kw_13⟩, List.forall_mem_cons.mpr ⟨px_k_get fk_X0_19, List.forall_mem_cons.mpr ⟨px_k_put pk_X0_19, fun _ h => nomatch h⟩⟩⟩⟩⟩⟩⟩⟩⟩⟩⟩
set_option maxRecDepth 20000 in
theorem ok_X0_push : px_okMt kt_mt kt_T vwCl kt_X M_X0_push := px_mk (M := M_X0_push) rfl (by decide) ⟨by decide, by decide⟩ (by decide) kw_5 kw_14 trivial de_X0_push (by decide +kernel) lk_X0_push
set_option maxRecDepth 20000 in
theorem de_X0_pop : px_dec cX0_pop (ls_X0_pop ++ ll_X0_pop) := by unfold px_dec; decide +kernel
set_option maxRecDepth 20000 in
set_option maxHeartbeats 4000000 in
theorem lk_X0_pop : ∀ q ∈ ll_X0_pop, px_okR kt_mt kt_T vwCl kt_X yX0_pop cX0_pop q.1 q.2 := List.forall_mem_cons.mpr ⟨px_k_get fk_X0_19, List.forall_mem_cons.mpr ⟨px_k_get fk_X0_19, List.forall_mem_cons.mpr ⟨px_k_put pk_X0_19, List.forall_mem_cons.mpr ⟨px_k_get fk_X0_9, List.forall_mem_cons.mpr ⟨px_k_get fk_X0_15, List.forall_mem_cons.mpr ⟨px_k_get fk_X0_19, List.forall_mem_cons.mpr ⟨px_k_cpy kt_no1004 ⟨kw_10, kw_11, kw_12, kw_13⟩, fun _ h => nomatch h⟩⟩⟩⟩⟩⟩⟩
set_option maxRecDepth 20000 in
theorem ok_X0_pop : px_okMt kt_mt kt_T vwCl kt_X M_X0_pop := px_mk (M := M_X0_pop) rfl (by decide) ⟨by decide, by decide⟩ (by decide) kw_5 kw_15 trivial de_X0_pop (by decide +kernel) lk_X0_pop
set_option maxRecDepth 20000 in
theorem de_X0_take : px_dec cX0_take (ls_X0_take ++ ll_X0_take) := by unfold px_dec; decide +kernel
set_option maxRecDepth 20000 in
set_option maxHeartbeats 4000000 in
theorem lk_X0_take : ∀ q ∈ ll_X0_take, px_okR kt_mt kt_T vwCl kt_X yX0_take cX0_take q.1 q.2 := List.forall_mem_cons.mpr ⟨px_k_get fk_X0_9, List.forall_mem_cons.mpr ⟨px_k_get fk_X0_9, List.forall_mem_cons.mpr ⟨px_k_cpy kt_no1004 ⟨kw_10, kw_11, kw_12, kw_13⟩, List.forall_mem_cons.mpr ⟨px_k_get fk_X0_15, List.forall_mem_cons.mpr ⟨px_k_put pk_X0_15, List.forall_mem_cons.mpr ⟨px_k_get fk_X0_19, List.forall_mem_cons.mpr ⟨px_k_put pk_X0_19, fun _ h => nomatch h⟩⟩⟩⟩⟩⟩⟩
set_option maxRecDepth 20000 in
theorem ok_X0_take : px_okMt kt_mt kt_T vwCl kt_X M_X0_take := px_mk (M := M_X0_take) rfl (by decide) ⟨by decide, by decide⟩ (by decide) kw_5 kw_16 trivial de_X0_take (by decide +kernel) lk_X0_take
set_option maxRecDepth 20000 in
theorem de_X1_init : px_dec cX1_init (ls_X1_init ++ ll_X1_init) := by unfold px_dec; decide +kernel
set_option maxRecDepth 20000 in
set_option maxHeartbeats 4000000 in
theorem lk_X1_init : ∀ q ∈ ll_X1_init, px_okR kt_mt kt_T vwCl kt_X yX1_init cX1_init q.1 q.2 := List.forall_mem_cons.mpr ⟨px_k_obj kt_no1000 ⟨kw_17, kw_1, kw_2⟩, List.forall_mem_cons.mpr ⟨px_k_arr (Or.inl ⟨rfl, rfl, kw_3⟩), List.forall_mem_cons.mpr ⟨px_k_put pk_X1_9_X1_init, List.forall_mem_cons.mpr ⟨px_k_arr (Or.inr (Or.inl ⟨rfl, rfl, kw_19⟩)), List.forall_mem_cons.mpr ⟨px_k_put pk_X1_15_X1_init, List.forall_mem_cons.mpr ⟨px_k_arr (Or.inl ⟨rfl, rfl, kw_3⟩), List.forall_mem_cons.mpr ⟨px_k_put pk_X1_19_X1_init, fun _ h => nomatch h⟩⟩⟩⟩⟩⟩⟩
set_option maxRecDepth 20000 in
theorem ok_X1_init : px_okMt kt_mt kt_T vwCl kt_X M_X1_init := px_mk (M := M_X1_init) rfl (by decide) ⟨by decide, by decide⟩ (by decide) kw_22 kw_23 trivial de_X1_init (by decide +kernel) lk_X1_init
set_option maxRecDepth 20000 in
theorem de_X1_fitsAsItIs : px_dec cX1_fitsAsItIs (ls_X1_fitsAsItIs ++ ll_X1_fitsAsItIs) := by unfold px_dec; decide +kernel
set_option maxRecDepth 20000 in
set_option maxHeartbeats 4000000 in
theorem lk_X1_fitsAsItIs : ∀ q ∈ ll_X1_fitsAsItIs, px_okR kt_mt kt_T vwCl kt_X yX1_fitsAsItIs cX1_fitsAsItIs q.1 q.2 := List.forall_mem_cons.mpr ⟨px_k_get fk_X1_9, List.forall_mem_cons.mpr ⟨px_k_cpy kt_no1004 ⟨kw_24, kw_11, kw_12, kw_13⟩, List.forall_mem_cons.mpr ⟨px_k_vir (by decide) mt_8 ⟨rfl, kw_25, kw_26, kw_27, ⟨_, _, rfl⟩, pd_8⟩, fun _ h => nomatch h⟩⟩⟩
set_option maxRecDepth 20000 in
theorem ok_X1_fitsAsItIs : px_okMt kt_mt kt_T vwCl kt_X M_X1_fitsAsItIs := px_mk (M := M_X1_fitsAsItIs) rfl (by decide) ⟨by decide, by decide⟩ (by decide) kw_22 kw_28 trivial de_X1_fitsAsItIs (by decide +kernel) lk_X1_fitsAsItIs
set_option maxRecDepth 20000 in
theorem de_X1_search : px_dec cX1_search (ls_X1_search ++ ll_X1_search) := by unfold px_dec; decide +kernel
set_option maxRecDepth 20000 in
set_option maxHeartbeats 4000000 in
theorem lk_X1_search : ∀ q ∈ ll_X1_search, px_okR kt_mt kt_T vwCl kt_X yX1_search cX1_search q.1 q.2 := List.forall_mem_cons.mpr ⟨px_k_get fk_X1_32, List.forall_mem_cons.mpr ⟨px_k_put pk_X1_32, List.forall_mem_cons.mpr ⟨px_k_put pk_X1_36, List.forall_mem_cons.mpr ⟨px_k_put pk_X1_40, List.forall_mem_cons.mpr ⟨px_k_get fk_X1_19, List.forall_mem_cons.mpr ⟨px_k_sta (by decide) mt_236 ⟨kw_32, kw_33, pd_236⟩, List.forall_mem_cons.mpr ⟨px_k_get fk_X1_49, List.forall_mem_cons.mpr ⟨px_k_get fk_X1_9, List.forall_mem_cons.mpr ⟨px_k_cpy kt_no1004 ⟨kw_24, kw_11, kw_12, kw_13⟩, List.forall_mem_cons.mpr ⟨px_k_get fk_X1_9, List.forall_mem_cons.mpr ⟨px_k_vir (by decide) mt_8 ⟨rfl, kw_25, kw_26, kw_27, ⟨_, _, rfl⟩, pd_8⟩, List.forall_mem_cons.mpr ⟨px_k_get fk_X1_36, List.forall_mem_cons.mpr ⟨px_k_get fk_X1_40, List.forall_mem_cons.mpr ⟨px_k_put pk_X1_40, List.forall_mem_cons.mpr ⟨px_k_get fk_X1_36, List.forall_mem_cons.mpr ⟨px_k_put pk_X1_36, List.forall_mem_cons.mpr ⟨px_k_vir (by decide) mt_9 ⟨rfl, kw_35, kw_36, kw_37, ⟨_, _, rfl⟩, pd_9⟩, List.forall_mem_cons.mpr ⟨px_k_vir (by decide) mt_10 ⟨rfl, kw_38, kw_39, kw_40, ⟨_, _, rfl⟩, pd_10⟩, fun _ h => nomatch h⟩⟩⟩⟩⟩⟩⟩⟩⟩⟩⟩⟩⟩⟩⟩⟩⟩⟩
set_option maxRecDepth 20000 in
theorem ok_X1_search : px_okMt kt_mt kt_T vwCl kt_X M_X1_search := px_mk (M := M_X1_search) rfl (by decide) ⟨by decide, by decide⟩ (by decide) kw_22 kw_41 trivial de_X1_search (by decide +kernel) lk_X1_search
set_option maxRecDepth 20000 in
theorem de_X1_fits : px_dec cX1_fits (ls_X1_fits ++ ll_X1_fits) := by unfold px_dec; decide +kernel
set_option maxRecDepth 20000 in
set_option maxHeartbeats 4000000 in
theorem lk_X1_fits : ∀ q ∈ ll_X1_fits, px_okR kt_mt kt_T vwCl kt_X yX1_fits cX1_fits q.1 q.2 := List.forall_mem_cons.mpr ⟨px_k_get fk_X1_9, List.forall_mem_cons.mpr ⟨px_k_vir (by decide) mt_23 ⟨rfl, kw_42, kw_43, kw_44, ⟨_, _, rfl⟩, pd_23⟩, List.forall_mem_cons.mpr ⟨px_k_get fk_X1_15, List.forall_mem_cons.mpr ⟨px_k_get fk_X1_64, List.forall_mem_cons.mpr ⟨px_k_get fk_X1_68, List.forall_mem_cons.mpr ⟨px_k_get fk_X1_71, List.forall_mem_cons.mpr ⟨px_k_get fk_X1_15, List.forall_mem_cons.mpr ⟨px_k_get fk_X1_74, fun _ h => nomatch h⟩⟩⟩⟩⟩⟩⟩⟩
set_option maxRecDepth 20000 in
theorem ok_X1_fits : px_okMt kt_mt kt_T vwCl kt_X M_X1_fits := px_mk (M := M_X1_fits) rfl (by decide) ⟨by decide, by decide⟩ (by decide) kw_22 kw_49 trivial de_X1_fits (by decide +kernel) lk_X1_fits
set_option maxRecDepth 20000 in
theorem de_X1_collect : px_dec cX1_collect (ls_X1_collect ++ ll_X1_collect) := by unfold px_dec; decide +kernel
set_option maxRecDepth 20000 in
set_option maxHeartbeats 4000000 in
theorem lk_X1_collect : ∀ q ∈ ll_X1_collect, px_okR kt_mt kt_T vwCl kt_X yX1_collect cX1_collect q.1 q.2 := List.forall_mem_cons.mpr ⟨px_k_get fk_X1_77, List.forall_mem_cons.mpr ⟨px_k_arr (Or.inr (Or.inl ⟨rfl, rfl, kw_19⟩)), List.forall_mem_cons.mpr ⟨px_k_put pk_X1_77, List.forall_mem_cons.mpr ⟨px_k_get fk_X1_19, List.forall_mem_cons.mpr ⟨px_k_get fk_X1_19, List.forall_mem_cons.mpr ⟨px_k_get fk_X1_77, List.forall_mem_cons.mpr ⟨px_k_get fk_X1_15, List.forall_mem_cons.mpr ⟨px_k_get fk_X1_77, List.forall_mem_cons.mpr ⟨px_k_get fk_X1_19, List.forall_mem_cons.mpr ⟨px_k_get fk_X1_15, List.forall_mem_cons.mpr ⟨px_k_get fk_X1_19, fun _ h => nomatch h⟩⟩⟩⟩⟩⟩⟩⟩⟩⟩⟩
set_option maxRecDepth 20000 in
theorem ok_X1_collect : px_okMt kt_mt kt_T vwCl kt_X M_X1_collect := px_mk (M := M_X1_collect) rfl (by decide) ⟨by decide, by decide⟩ (by decide) kw_22 kw_51 trivial de_X1_collect (by decide +kernel) lk_X1_collect
set_option maxRecDepth 20000 in
theorem de_X1_chooseMinute : px_dec cX1_chooseMinute (ls_X1_chooseMinute ++ ll_X1_chooseMinute) := by unfold px_dec; decide +kernel
set_option maxRecDepth 20000 in
set_option maxHeartbeats 4000000 in
theorem lk_X1_chooseMinute : ∀ q ∈ ll_X1_chooseMinute, px_okR kt_mt kt_T vwCl kt_X yX1_chooseMinute cX1_chooseMinute q.1 q.2 := List.forall_mem_cons.mpr ⟨px_k_put pk_X1_80, List.forall_mem_cons.mpr ⟨px_k_put pk_X1_82, List.forall_mem_cons.mpr ⟨px_k_get fk_X1_19, List.forall_mem_cons.mpr ⟨px_k_get fk_X1_82, List.forall_mem_cons.mpr ⟨px_k_get fk_X1_19, List.forall_mem_cons.mpr ⟨px_k_put pk_X1_82, List.forall_mem_cons.mpr ⟨px_k_put pk_X1_80, fun _ h => nomatch h⟩⟩⟩⟩⟩⟩⟩
set_option maxRecDepth 20000 in
theorem ok_X1_chooseMinute : px_okMt kt_mt kt_T vwCl kt_X M_X1_chooseMinute := px_mk (M := M_X1_chooseMinute) rfl (by decide) ⟨by decide, by decide⟩ (by decide) kw_22 kw_54 trivial de_X1_chooseMinute (by decide +kernel) lk_X1_chooseMinute
set_option maxRecDepth 20000 in
theorem de_X2_init : px_dec cX2_init (ls_X2_init ++ ll_X2_init) := by unfold px_dec; decide +kernel
set_option maxRecDepth 20000 in
set_option maxHeartbeats 4000000 in
theorem lk_X2_init : ∀ q ∈ ll_X2_init, px_okR kt_mt kt_T vwCl kt_X yX2_init cX2_init q.1 q.2 := List.forall_mem_cons.mpr ⟨px_k_obj kt_no1000 ⟨kw_55, kw_1, kw_2⟩, List.forall_mem_cons.mpr ⟨px_k_arr (Or.inl ⟨rfl, rfl, kw_3⟩), List.forall_mem_cons.mpr ⟨px_k_put pk_X2_9_X2_init, List.forall_mem_cons.mpr ⟨px_k_arr (Or.inl ⟨rfl, rfl, kw_3⟩), List.forall_mem_cons.mpr ⟨px_k_put pk_X2_15_X2_init, fun _ h => nomatch h⟩⟩⟩⟩⟩
set_option maxRecDepth 20000 in
theorem ok_X2_init : px_okMt kt_mt kt_T vwCl kt_X M_X2_init := px_mk (M := M_X2_init) rfl (by decide) ⟨by decide, by decide⟩ (by decide) kw_58 kw_59 trivial de_X2_init (by decide +kernel) lk_X2_init
set_option maxRecDepth 20000 in
theorem de_X2_clear : px_dec cX2_clear (ls_X2_clear ++ ll_X2_clear) := by unfold px_dec; decide +kernel
set_option maxRecDepth 20000 in
set_option maxHeartbeats 4000000 in
theorem lk_X2_clear : ∀ q ∈ ll_X2_clear, px_okR kt_mt kt_T vwCl kt_X yX2_clear cX2_clear q.1 q.2 := List.forall_mem_cons.mpr ⟨px_k_put pk_X2_18, fun _ h => nomatch h⟩
set_option maxRecDepth 20000 in
theorem ok_X2_clear : px_okMt kt_mt kt_T vwCl kt_X M_X2_clear := px_mk (M := M_X2_clear) rfl (by decide) ⟨by decide, by decide⟩ (by decide) kw_58 kw_61 trivial de_X2_clear (by decide +kernel) lk_X2_clear
set_option maxRecDepth 20000 in
theorem de_X2_add : px_dec cX2_add (ls_X2_add ++ ll_X2_add) := by unfold px_dec; decide +kernel
set_option maxRecDepth 20000 in
set_option maxHeartbeats 4000000 in
theorem lk_X2_add : ∀ q ∈ ll_X2_add, px_okR kt_mt kt_T vwCl kt_X yX2_add cX2_add q.1 q.2 := List.forall_mem_cons.mpr ⟨px_k_get fk_X2_18, List.forall_mem_cons.mpr ⟨px_k_get fk_X2_9, List.forall_mem_cons.mpr ⟨px_k_get fk_X2_18, List.forall_mem_cons.mpr ⟨px_k_get fk_X2_15, List.forall_mem_cons.mpr ⟨px_k_get fk_X2_18, List.forall_mem_cons.mpr ⟨px_k_get fk_X2_18, List.forall_mem_cons.mpr ⟨px_k_put pk_X2_18, fun _ h => nomatch h⟩⟩⟩⟩⟩⟩⟩
set_option maxRecDepth 20000 in
theorem ok_X2_add : px_okMt kt_mt kt_T vwCl kt_X M_X2_add := px_mk (M := M_X2_add) rfl (by decide) ⟨by decide, by decide⟩ (by decide) kw_58 kw_62 trivial de_X2_add (by decide +kernel) lk_X2_add
set_option maxRecDepth 20000 in
theorem de_X2_take : px_dec cX2_take (ls_X2_take ++ ll_X2_take) := by unfold px_dec; decide +kernel
set_option maxRecDepth 20000 in
set_option maxHeartbeats 4000000 in
theorem lk_X2_take : ∀ q ∈ ll_X2_take, px_okR kt_mt kt_T vwCl kt_X yX2_take cX2_take q.1 q.2 := List.forall_mem_cons.mpr ⟨px_k_get fk_X2_9, List.forall_mem_cons.mpr ⟨px_k_get fk_X2_9, List.forall_mem_cons.mpr ⟨px_k_cpy kt_no1004 ⟨kw_63, kw_11, kw_12, kw_13⟩, List.forall_mem_cons.mpr ⟨px_k_get fk_X2_15, List.forall_mem_cons.mpr ⟨px_k_get fk_X2_15, List.forall_mem_cons.mpr ⟨px_k_cpy kt_no1004 ⟨kw_63, kw_11, kw_12, kw_13⟩, List.forall_mem_cons.mpr ⟨px_k_get fk_X2_18, List.forall_mem_cons.mpr ⟨px_k_put pk_X2_18, fun _ h => nomatch h⟩⟩⟩⟩⟩⟩⟩⟩
set_option maxRecDepth 20000 in
theorem ok_X2_take : px_okMt kt_mt kt_T vwCl kt_X M_X2_take := px_mk (M := M_X2_take) rfl (by decide) ⟨by decide, by decide⟩ (by decide) kw_58 kw_64 trivial de_X2_take (by decide +kernel) lk_X2_take
set_option maxRecDepth 20000 in
theorem de_X3_init : px_dec cX3_init (ls_X3_init ++ ll_X3_init) := by unfold px_dec; decide +kernel
set_option maxRecDepth 20000 in
set_option maxHeartbeats 4000000 in
theorem lk_X3_init : ∀ q ∈ ll_X3_init, px_okR kt_mt kt_T vwCl kt_X yX3_init cX3_init q.1 q.2 := List.forall_mem_cons.mpr ⟨px_k_obj kt_no1000 ⟨kw_65, kw_1, kw_2⟩, List.forall_mem_cons.mpr ⟨px_k_arr (Or.inl ⟨rfl, rfl, kw_3⟩), List.forall_mem_cons.mpr ⟨px_k_put pk_X3_9_X3_init, List.forall_mem_cons.mpr ⟨px_k_new (C := RX0) (T := TX0) (by decide) rfl kw_67, List.forall_mem_cons.mpr ⟨px_k_spe (by decide) mt_0 ⟨rfl, rfl, rfl, kw_68, pd_0, Or.inr ⟨"KettleChoir", List.mem_of_getElem? (i := 8) rfl⟩⟩, List.forall_mem_cons.mpr ⟨px_k_put pk_X3_18_X3_init, List.forall_mem_cons.mpr ⟨px_k_new (C := RX2) (T := TX2) (by decide) rfl kw_70, List.forall_mem_cons.mpr ⟨px_k_spe (by decide) mt_11 ⟨rfl, rfl, rfl, kw_71, pd_11, Or.inr ⟨"KettleChoir", List.mem_of_getElem? (i := 9) rfl⟩⟩, List.forall_mem_cons.mpr ⟨px_k_put pk_X3_25_X3_init, List.forall_mem_cons.mpr ⟨px_k_arr (Or.inl ⟨rfl, rfl, kw_3⟩), List.forall_mem_cons.mpr ⟨px_k_put pk_X3_29_X3_init, fun _ h => nomatch h⟩⟩⟩⟩⟩⟩⟩⟩⟩⟩⟩
set_option maxRecDepth 20000 in
theorem ok_X3_init : px_okMt kt_mt kt_T vwCl kt_X M_X3_init := px_mk (M := M_X3_init) rfl (by decide) ⟨by decide, by decide⟩ (by decide) kw_74 kw_75 trivial de_X3_init (by decide +kernel) lk_X3_init
set_option maxRecDepth 20000 in
theorem de_X3_keep : px_dec cX3_keep (ls_X3_keep ++ ll_X3_keep) := by unfold px_dec; decide +kernel
set_option maxRecDepth 20000 in
set_option maxHeartbeats 4000000 in
theorem lk_X3_keep : ∀ q ∈ ll_X3_keep, px_okR kt_mt kt_T vwCl kt_X yX3_keep cX3_keep q.1 q.2 := List.forall_mem_cons.mpr ⟨px_k_get fk_X3_9, List.forall_mem_cons.mpr ⟨px_k_cpy kt_no1004 ⟨kw_76, kw_11, kw_12, kw_13⟩, List.forall_mem_cons.mpr ⟨px_k_get fk_X3_18, List.forall_mem_cons.mpr ⟨px_k_vir (by decide) mt_4 ⟨rfl, kw_77, kw_78, kw_79, ⟨_, _, rfl⟩, pd_4⟩, List.forall_mem_cons.mpr ⟨px_k_get fk_X3_25, List.forall_mem_cons.mpr ⟨px_k_vir (by decide) mt_14 ⟨rfl, kw_80, kw_81, kw_82, ⟨_, _, rfl⟩, pd_14⟩, List.forall_mem_cons.mpr ⟨px_k_get fk_X3_29, List.forall_mem_cons.mpr ⟨px_k_cpy kt_no1004 ⟨kw_76, kw_11, kw_12, kw_13⟩, fun _ h => nomatch h⟩⟩⟩⟩⟩⟩⟩⟩
set_option maxRecDepth 20000 in
theorem ok_X3_keep : px_okMt kt_mt kt_T vwCl kt_X M_X3_keep := px_mk (M := M_X3_keep) rfl (by decide) ⟨by decide, by decide⟩ (by decide) kw_74 kw_83 trivial de_X3_keep (by decide +kernel) lk_X3_keep
set_option maxRecDepth 20000 in
theorem de_X3_giveBack : px_dec cX3_giveBack (ls_X3_giveBack ++ ll_X3_giveBack) := by unfold px_dec; decide +kernel
set_option maxRecDepth 20000 in
set_option maxHeartbeats 4000000 in
theorem lk_X3_giveBack : ∀ q ∈ ll_X3_giveBack, px_okR kt_mt kt_T vwCl kt_X yX3_giveBack cX3_giveBack q.1 q.2 := List.forall_mem_cons.mpr ⟨px_k_get fk_X3_9, List.forall_mem_cons.mpr ⟨px_k_cpy kt_no1004 ⟨kw_76, kw_11, kw_12, kw_13⟩, List.forall_mem_cons.mpr ⟨px_k_get fk_X3_18, List.forall_mem_cons.mpr ⟨px_k_vir (by decide) mt_4 ⟨rfl, kw_77, kw_78, kw_79, ⟨_, _, rfl⟩, pd_4⟩, List.forall_mem_cons.mpr ⟨px_k_get fk_X3_25, List.forall_mem_cons.mpr ⟨px_k_vir (by decide) mt_14 ⟨rfl, kw_80, kw_81, kw_82, ⟨_, _, rfl⟩, pd_14⟩, List.forall_mem_cons.mpr ⟨px_k_get fk_X3_29, List.forall_mem_cons.mpr ⟨px_k_cpy kt_no1004 ⟨kw_76, kw_11, kw_12, kw_13⟩, fun _ h => nomatch h⟩⟩⟩⟩⟩⟩⟩⟩
set_option maxRecDepth 20000 in
theorem ok_X3_giveBack : px_okMt kt_mt kt_T vwCl kt_X M_X3_giveBack := px_mk (M := M_X3_giveBack) rfl (by decide) ⟨by decide, by decide⟩ (by decide) kw_74 kw_84 trivial de_X3_giveBack (by decide +kernel) lk_X3_giveBack
set_option maxRecDepth 20000 in
theorem de_X4_init : px_dec cX4_init (ls_X4_init ++ ll_X4_init) := by unfold px_dec; decide +kernel
set_option maxRecDepth 20000 in
set_option maxHeartbeats 4000000 in
theorem lk_X4_init : ∀ q ∈ ll_X4_init, px_okR kt_mt kt_T vwCl kt_X yX4_init cX4_init q.1 q.2 := List.forall_mem_cons.mpr ⟨px_k_obj kt_no1000 ⟨kw_85, kw_1, kw_2⟩, List.forall_mem_cons.mpr ⟨px_k_arr (Or.inl ⟨rfl, rfl, kw_3⟩), List.forall_mem_cons.mpr ⟨px_k_put pk_X4_9_X4_init, List.forall_mem_cons.mpr ⟨px_k_arr (Or.inl ⟨rfl, rfl, kw_3⟩), List.forall_mem_cons.mpr ⟨px_k_put pk_X4_15_X4_init, List.forall_mem_cons.mpr ⟨px_k_arr (Or.inl ⟨rfl, rfl, kw_3⟩), List.forall_mem_cons.mpr ⟨px_k_put pk_X4_18_X4_init, List.forall_mem_cons.mpr ⟨px_k_arr (Or.inl ⟨rfl, rfl, kw_3⟩), List.forall_mem_cons.mpr ⟨px_k_put pk_X4_21_X4_init, List.forall_mem_cons.mpr ⟨px_k_arr (Or.inl ⟨rfl, rfl, kw_3⟩), List.forall_mem_cons.mpr ⟨px_k_put pk_X4_24_X4_init, List.forall_mem_cons.mpr ⟨px_k_arr (Or.inl ⟨rfl, rfl, kw_3⟩), List.forall_mem_cons.mpr ⟨px_k_put pk_X4_27_X4_init, List.forall_mem_cons.mpr ⟨px_k_arr (Or.inl ⟨rfl, rfl, kw_3⟩), List.forall_mem_cons.mpr ⟨px_k_put pk_X4_30_X4_init, List.forall_mem_cons.mpr ⟨px_k_arr (Or.inl ⟨rfl, rfl, kw_3⟩), List.forall_mem_cons.mpr ⟨px_k_put pk_X4_33_X4_init, List.forall_mem_cons.mpr ⟨px_k_new (C := RX7) (T := TX7) (by decide) rfl kw_94, List.forall_mem_cons.mpr ⟨px_k_spe (by decide) mt_67 ⟨rfl, rfl, rfl, kw_95, pd_67, Or.inr ⟨"KettleChoir", List.mem_of_getElem? (i := 10) rfl⟩⟩, List.forall_mem_cons.mpr ⟨px_k_put pk_X4_39_X4_init, List.forall_mem_cons.mpr ⟨px_k_arr (Or.inl ⟨rfl, rfl, kw_3⟩), List.forall_mem_cons.mpr ⟨px_k_put pk_X4_43_X4_init, fun _ h => nomatch h⟩⟩⟩⟩⟩⟩⟩⟩⟩⟩⟩⟩⟩⟩⟩⟩⟩⟩⟩⟩⟩⟩
set_option maxRecDepth 20000 in
theorem ok_X4_init : px_okMt kt_mt kt_T vwCl kt_X M_X4_init := px_mk (M := M_X4_init) rfl (by decide) ⟨by decide, by decide⟩ (by decide) kw_98 kw_99 trivial de_X4_init (by decide +kernel) lk_X4_init
set_option maxRecDepth 20000 in
theorem de_X4_clear : px_dec cX4_clear (ls_X4_clear ++ ll_X4_clear) := by unfold px_dec; decide +kernel
set_option maxRecDepth 20000 in
set_option maxHeartbeats 4000000 in
theorem lk_X4_clear : ∀ q ∈ ll_X4_clear, px_okR kt_mt kt_T vwCl kt_X yX4_clear cX4_clear q.1 q.2 := List.forall_mem_cons.mpr ⟨px_k_put pk_X4_46, List.forall_mem_cons.mpr ⟨px_k_put pk_X4_50, List.forall_mem_cons.mpr ⟨px_k_put pk_X4_53, List.forall_mem_cons.mpr ⟨px_k_get fk_X4_39, List.forall_mem_cons.mpr ⟨px_k_put pk_X4_56, fun _ h => nomatch h⟩⟩⟩⟩⟩
set_option maxRecDepth 20000 in
theorem ok_X4_clear : px_okMt kt_mt kt_T vwCl kt_X M_X4_clear := px_mk (M := M_X4_clear) rfl (by decide) ⟨by decide, by decide⟩ (by decide) kw_98 kw_104 trivial de_X4_clear (by decide +kernel) lk_X4_clear
set_option maxRecDepth 20000 in
theorem de_X4_take : px_dec cX4_take (ls_X4_take ++ ll_X4_take) := by unfold px_dec; decide +kernel
set_option maxRecDepth 20000 in
set_option maxHeartbeats 4000000 in
theorem lk_X4_take : ∀ q ∈ ll_X4_take, px_okR kt_mt kt_T vwCl kt_X yX4_take cX4_take q.1 q.2 := List.forall_mem_cons.mpr ⟨px_k_get fk_X4_46, List.forall_mem_cons.mpr ⟨px_k_put pk_X4_46, List.forall_mem_cons.mpr ⟨px_k_get fk_X4_50, List.forall_mem_cons.mpr ⟨px_k_put pk_X4_50, List.forall_mem_cons.mpr ⟨px_k_get fk_X4_53, List.forall_mem_cons.mpr ⟨px_k_put pk_X4_53, List.forall_mem_cons.mpr ⟨px_k_get fk_X4_9, List.forall_mem_cons.mpr ⟨px_k_get fk_X4_9, List.forall_mem_cons.mpr ⟨px_k_cpy kt_no1004 ⟨kw_105, kw_11, kw_12, kw_13⟩, List.forall_mem_cons.mpr ⟨px_k_get fk_X4_15, List.forall_mem_cons.mpr ⟨px_k_get fk_X4_15, List.forall_mem_cons.mpr ⟨px_k_cpy kt_no1004 ⟨kw_105, kw_11, kw_12, kw_13⟩, List.forall_mem_cons.mpr ⟨px_k_get fk_X4_18, List.forall_mem_cons.mpr ⟨px_k_get fk_X4_18, List.forall_mem_cons.mpr ⟨px_k_cpy kt_no1004 ⟨kw_105, kw_11, kw_12, kw_13⟩, List.forall_mem_cons.mpr ⟨px_k_get fk_X4_21, List.forall_mem_cons.mpr ⟨px_k_get fk_X4_21, List.forall_mem_cons.mpr ⟨px_k_cpy kt_no1004 ⟨kw_105, kw_11, kw_12, kw_13⟩, List.forall_mem_cons.mpr ⟨px_k_get fk_X4_24, List.forall_mem_cons.mpr ⟨px_k_get fk_X4_24, List.forall_mem_cons.mpr ⟨px_k_cpy kt_no1004 ⟨kw_105, kw_11, kw_12, kw_13⟩, List.forall_mem_cons.mpr ⟨px_k_get fk_X4_27, List.forall_mem_cons.mpr ⟨px_k_get fk_X4_27, List.forall_mem_cons.mpr ⟨px_k_cpy kt_no1004 ⟨kw_105, kw_11, kw_12, kw_13⟩, List.forall_mem_cons.mpr ⟨px_k_get fk_X4_30, List.forall_mem_cons.mpr ⟨px_k_get fk_X4_30, List.forall_mem_cons.mpr ⟨px_k_cpy kt_no1004 ⟨kw_105, kw_11, kw_12, kw_13⟩, List.forall_mem_cons.mpr ⟨px_k_get fk_X4_33, List.forall_mem_cons.mpr ⟨px_k_get fk_X4_33, List.forall_mem_cons.mpr ⟨px_k_cpy kt_no1004 ⟨kw_105, kw_11, kw_12, kw_13⟩, List.forall_mem_cons.mpr ⟨px_k_get fk_X4_39, List.forall_mem_cons.mpr ⟨px_k_get fk_X4_39, List.forall_mem_cons.mpr ⟨px_k_vir (by decide) mt_69 ⟨rfl, kw_106, kw_107, kw_108, ⟨_, _, rfl⟩, pd_69⟩, fun _ h => nomatch h⟩⟩⟩⟩⟩⟩⟩⟩⟩⟩⟩⟩⟩⟩⟩⟩⟩⟩⟩⟩⟩⟩⟩⟩⟩⟩⟩⟩⟩⟩⟩⟩⟩
set_option maxRecDepth 20000 in
theorem ok_X4_take : px_okMt kt_mt kt_T vwCl kt_X M_X4_take := px_mk (M := M_X4_take) rfl (by decide) ⟨by decide, by decide⟩ (by decide) kw_98 kw_109 trivial de_X4_take (by decide +kernel) lk_X4_take
set_option maxRecDepth 20000 in
theorem de_X4_open : px_dec cX4_open (ls_X4_open ++ ll_X4_open) := by unfold px_dec; decide +kernel
set_option maxRecDepth 20000 in
set_option maxHeartbeats 4000000 in
theorem lk_X4_open : ∀ q ∈ ll_X4_open, px_okR kt_mt kt_T vwCl kt_X yX4_open cX4_open q.1 q.2 := List.forall_mem_cons.mpr ⟨px_k_sta (by decide) mt_236 ⟨kw_110, kw_33, pd_236⟩, List.forall_mem_cons.mpr ⟨px_k_get fk_X4_46, List.forall_mem_cons.mpr ⟨px_k_get fk_X4_21, List.forall_mem_cons.mpr ⟨px_k_get fk_X4_24, fun _ h => nomatch h⟩⟩⟩⟩
set_option maxRecDepth 20000 in
theorem ok_X4_open : px_okMt kt_mt kt_T vwCl kt_X M_X4_open := px_mk (M := M_X4_open) rfl (by decide) ⟨by decide, by decide⟩ (by decide) kw_98 kw_111 trivial de_X4_open (by decide +kernel) lk_X4_open
set_option maxRecDepth 20000 in
theorem de_X4_kettleOn : px_dec cX4_kettleOn (ls_X4_kettleOn ++ ll_X4_kettleOn) := by unfold px_dec; decide +kernel
set_option maxRecDepth 20000 in
set_option maxHeartbeats 4000000 in
theorem lk_X4_kettleOn : ∀ q ∈ ll_X4_kettleOn, px_okR kt_mt kt_T vwCl kt_X yX4_kettleOn cX4_kettleOn q.1 q.2 := List.forall_mem_cons.mpr ⟨px_k_get fk_X4_46, fun _ h => nomatch h⟩
set_option maxRecDepth 20000 in
theorem ok_X4_kettleOn : px_okMt kt_mt kt_T vwCl kt_X M_X4_kettleOn := px_mk (M := M_X4_kettleOn) rfl (by decide) ⟨by decide, by decide⟩ (by decide) kw_98 kw_112 trivial de_X4_kettleOn (by decide +kernel) lk_X4_kettleOn
set_option maxRecDepth 20000 in
theorem de_X4_pass : px_dec cX4_pass (ls_X4_pass ++ ll_X4_pass) := by unfold px_dec; decide +kernel
set_option maxRecDepth 20000 in
set_option maxHeartbeats 4000000 in
theorem lk_X4_pass : ∀ q ∈ ll_X4_pass, px_okR kt_mt kt_T vwCl kt_X yX4_pass cX4_pass q.1 q.2 := List.forall_mem_cons.mpr ⟨px_k_get fk_X4_46, List.forall_mem_cons.mpr ⟨px_k_get fk_X4_50, List.forall_mem_cons.mpr ⟨px_k_get fk_X4_27, List.forall_mem_cons.mpr ⟨px_k_vir (by decide) mt_24 ⟨rfl, kw_113, kw_114, kw_115, ⟨_, _, rfl⟩, pd_24⟩, List.forall_mem_cons.mpr ⟨px_k_vir (by decide) mt_25 ⟨rfl, kw_116, kw_117, kw_118, ⟨_, _, rfl⟩, pd_25⟩, List.forall_mem_cons.mpr ⟨px_k_vir (by decide) mt_29 ⟨rfl, kw_119, kw_120, kw_121, ⟨_, _, rfl⟩, pd_29⟩, List.forall_mem_cons.mpr ⟨px_k_get fk_X4_46, List.forall_mem_cons.mpr ⟨px_k_vir (by decide) mt_31 ⟨rfl, kw_122, kw_123, kw_124, ⟨_, _, rfl⟩, pd_31⟩, List.forall_mem_cons.mpr ⟨px_k_vir (by decide) mt_32 ⟨rfl, kw_125, kw_126, kw_127, ⟨_, _, rfl⟩, pd_32⟩, fun _ h => nomatch h⟩⟩⟩⟩⟩⟩⟩⟩⟩
set_option maxRecDepth 20000 in
theorem ok_X4_pass : px_okMt kt_mt kt_T vwCl kt_X M_X4_pass := px_mk (M := M_X4_pass) rfl (by decide) ⟨by decide, by decide⟩ (by decide) kw_98 kw_128 trivial de_X4_pass (by decide +kernel) lk_X4_pass
set_option maxRecDepth 20000 in
theorem de_X4_warm : px_dec cX4_warm (ls_X4_warm ++ ll_X4_warm) := by unfold px_dec; decide +kernel
set_option maxRecDepth 20000 in
set_option maxHeartbeats 4000000 in
theorem lk_X4_warm : ∀ q ∈ ll_X4_warm, px_okR kt_mt kt_T vwCl kt_X yX4_warm cX4_warm q.1 q.2 := List.forall_mem_cons.mpr ⟨px_k_get fk_X4_9, List.forall_mem_cons.mpr ⟨px_k_max kt_no1001 ⟨kw_129, kw_130, kw_131, kw_132⟩, List.forall_mem_cons.mpr ⟨px_k_get fk_X4_9, List.forall_mem_cons.mpr ⟨px_k_max kt_no1001 ⟨kw_129, kw_130, kw_131, kw_132⟩, List.forall_mem_cons.mpr ⟨px_k_min kt_no1002 ⟨kw_133, kw_134, kw_131, kw_135⟩, fun _ h => nomatch h⟩⟩⟩⟩⟩
set_option maxRecDepth 20000 in
theorem ok_X4_warm : px_okMt kt_mt kt_T vwCl kt_X M_X4_warm := px_mk (M := M_X4_warm) rfl (by decide) ⟨by decide, by decide⟩ (by decide) kw_98 kw_136 trivial de_X4_warm (by decide +kernel) lk_X4_warm
set_option maxRecDepth 20000 in
theorem de_X4_sing : px_dec cX4_sing (ls_X4_sing ++ ll_X4_sing) := by unfold px_dec; decide +kernel
set_option maxRecDepth 20000 in
set_option maxHeartbeats 4000000 in
theorem lk_X4_sing : ∀ q ∈ ll_X4_sing, px_okR kt_mt kt_T vwCl kt_X yX4_sing cX4_sing q.1 q.2 := List.forall_mem_cons.mpr ⟨px_k_put pk_X4_101, List.forall_mem_cons.mpr ⟨px_k_put pk_X4_105, List.forall_mem_cons.mpr ⟨px_k_get fk_X4_46, List.forall_mem_cons.mpr ⟨px_k_vir (by decide) mt_26 ⟨rfl, kw_139, kw_140, kw_141, ⟨_, _, rfl⟩, pd_26⟩, List.forall_mem_cons.mpr ⟨px_k_get fk_X4_101, List.forall_mem_cons.mpr ⟨px_k_put pk_X4_101, List.forall_mem_cons.mpr ⟨px_k_get fk_X4_105, List.forall_mem_cons.mpr ⟨px_k_put pk_X4_105, fun _ h => nomatch h⟩⟩⟩⟩⟩⟩⟩⟩
set_option maxRecDepth 20000 in
theorem ok_X4_sing : px_okMt kt_mt kt_T vwCl kt_X M_X4_sing := px_mk (M := M_X4_sing) rfl (by decide) ⟨by decide, by decide⟩ (by decide) kw_98 kw_142 trivial de_X4_sing (by decide +kernel) lk_X4_sing
set_option maxRecDepth 20000 in
theorem de_X4_voice : px_dec cX4_voice (ls_X4_voice ++ ll_X4_voice) := by unfold px_dec; decide +kernel
set_option maxRecDepth 20000 in
set_option maxHeartbeats 4000000 in
theorem lk_X4_voice : ∀ q ∈ ll_X4_voice, px_okR kt_mt kt_T vwCl kt_X yX4_voice cX4_voice q.1 q.2 := List.forall_mem_cons.mpr ⟨px_k_vir (by decide) mt_27 ⟨rfl, kw_143, kw_144, kw_145, ⟨_, _, rfl⟩, pd_27⟩, List.forall_mem_cons.mpr ⟨px_k_vir (by decide) mt_28 ⟨rfl, kw_146, kw_147, kw_148, ⟨_, _, rfl⟩, pd_28⟩, fun _ h => nomatch h⟩⟩
set_option maxRecDepth 20000 in
theorem ok_X4_voice : px_okMt kt_mt kt_T vwCl kt_X M_X4_voice := px_mk (M := M_X4_voice) rfl (by decide) ⟨by decide, by decide⟩ (by decide) kw_98 kw_149 trivial de_X4_voice (by decide +kernel) lk_X4_voice
set_option maxRecDepth 20000 in
theorem de_X4_couldSing : px_dec cX4_couldSing (ls_X4_couldSing ++ ll_X4_couldSing) := by unfold px_dec; decide +kernel
set_option maxRecDepth 20000 in
set_option maxHeartbeats 4000000 in
theorem lk_X4_couldSing : ∀ q ∈ ll_X4_couldSing, px_okR kt_mt kt_T vwCl kt_X yX4_couldSing cX4_couldSing q.1 q.2 := List.forall_mem_cons.mpr ⟨px_k_get fk_X4_18, fun _ h => nomatch h⟩
set_option maxRecDepth 20000 in
theorem ok_X4_couldSing : px_okMt kt_mt kt_T vwCl kt_X M_X4_couldSing := px_mk (M := M_X4_couldSing) rfl (by decide) ⟨by decide, by decide⟩ (by decide) kw_98 kw_150 trivial de_X4_couldSing (by decide +kernel) lk_X4_couldSing
set_option maxRecDepth 20000 in
theorem de_X4_noteOf : px_dec cX4_noteOf (ls_X4_noteOf ++ ll_X4_noteOf) := by unfold px_dec; decide +kernel
set_option maxRecDepth 20000 in
set_option maxHeartbeats 4000000 in
theorem lk_X4_noteOf : ∀ q ∈ ll_X4_noteOf, px_okR kt_mt kt_T vwCl kt_X yX4_noteOf cX4_noteOf q.1 q.2 := List.forall_mem_cons.mpr ⟨px_k_get fk_X4_15, List.forall_mem_cons.mpr ⟨px_k_get fk_X4_18, List.forall_mem_cons.mpr ⟨px_k_get fk_X4_9, fun _ h => nomatch h⟩⟩⟩
set_option maxRecDepth 20000 in
theorem ok_X4_noteOf : px_okMt kt_mt kt_T vwCl kt_X M_X4_noteOf := px_mk (M := M_X4_noteOf) rfl (by decide) ⟨by decide, by decide⟩ (by decide) kw_98 kw_151 trivial de_X4_noteOf (by decide +kernel) lk_X4_noteOf
set_option maxRecDepth 20000 in
theorem de_X4_serve : px_dec cX4_serve (ls_X4_serve ++ ll_X4_serve) := by unfold px_dec; decide +kernel
set_option maxRecDepth 20000 in
set_option maxHeartbeats 4000000 in
theorem lk_X4_serve : ∀ q ∈ ll_X4_serve, px_okR kt_mt kt_T vwCl kt_X yX4_serve cX4_serve q.1 q.2 := List.forall_mem_cons.mpr ⟨px_k_get fk_X4_53, List.forall_mem_cons.mpr ⟨px_k_vir (by decide) mt_30 ⟨rfl, kw_152, kw_153, kw_154, ⟨_, _, rfl⟩, pd_30⟩, fun _ h => nomatch h⟩⟩
set_option maxRecDepth 20000 in
theorem ok_X4_serve : px_okMt kt_mt kt_T vwCl kt_X M_X4_serve := px_mk (M := M_X4_serve) rfl (by decide) ⟨by decide, by decide⟩ (by decide) kw_98 kw_155 trivial de_X4_serve (by decide +kernel) lk_X4_serve
set_option maxRecDepth 20000 in
theorem de_X4_sounds : px_dec cX4_sounds (ls_X4_sounds ++ ll_X4_sounds) := by unfold px_dec; decide +kernel
set_option maxRecDepth 20000 in
set_option maxHeartbeats 4000000 in
theorem lk_X4_sounds : ∀ q ∈ ll_X4_sounds, px_okR kt_mt kt_T vwCl kt_X yX4_sounds cX4_sounds q.1 q.2 := List.forall_mem_cons.mpr ⟨px_k_get fk_X4_101, List.forall_mem_cons.mpr ⟨px_k_get fk_X4_30, List.forall_mem_cons.mpr ⟨px_k_get fk_X4_101, List.forall_mem_cons.mpr ⟨px_k_get fk_X4_33, fun _ h => nomatch h⟩⟩⟩⟩
set_option maxRecDepth 20000 in
theorem ok_X4_sounds : px_okMt kt_mt kt_T vwCl kt_X M_X4_sounds := px_mk (M := M_X4_sounds) rfl (by decide) ⟨by decide, by decide⟩ (by decide) kw_98 kw_156 trivial de_X4_sounds (by decide +kernel) lk_X4_sounds
set_option maxRecDepth 20000 in
theorem de_X4_boil : px_dec cX4_boil (ls_X4_boil ++ ll_X4_boil) := by unfold px_dec; decide +kernel
set_option maxRecDepth 20000 in
set_option maxHeartbeats 4000000 in
theorem lk_X4_boil : ∀ q ∈ ll_X4_boil, px_okR kt_mt kt_T vwCl kt_X yX4_boil cX4_boil q.1 q.2 := List.forall_mem_cons.mpr ⟨px_k_min kt_no1002 ⟨kw_133, kw_134, kw_131, kw_135⟩, fun _ h => nomatch h⟩
set_option maxRecDepth 20000 in
theorem ok_X4_boil : px_okMt kt_mt kt_T vwCl kt_X M_X4_boil := px_mk (M := M_X4_boil) rfl (by decide) ⟨by decide, by decide⟩ (by decide) kw_98 kw_157 trivial de_X4_boil (by decide +kernel) lk_X4_boil
set_option maxRecDepth 20000 in
theorem de_X4_cook : px_dec cX4_cook (ls_X4_cook ++ ll_X4_cook) := by unfold px_dec; decide +kernel
set_option maxRecDepth 20000 in
set_option maxHeartbeats 4000000 in
theorem lk_X4_cook : ∀ q ∈ ll_X4_cook, px_okR kt_mt kt_T vwCl kt_X yX4_cook cX4_cook q.1 q.2 := List.forall_mem_cons.mpr ⟨px_k_get fk_X4_39, List.forall_mem_cons.mpr ⟨px_k_get fk_X4_56, List.forall_mem_cons.mpr ⟨px_k_get fk_X4_46, List.forall_mem_cons.mpr ⟨px_k_vir (by decide) mt_33 ⟨rfl, kw_158, kw_159, kw_160, ⟨_, _, rfl⟩, pd_33⟩, List.forall_mem_cons.mpr ⟨px_k_get fk_X4_39, List.forall_mem_cons.mpr ⟨px_k_get fk_X4_43, List.forall_mem_cons.mpr ⟨px_k_vir (by decide) mt_70 ⟨rfl, kw_161, kw_162, kw_163, ⟨_, _, rfl⟩, pd_70⟩, fun _ h => nomatch h⟩⟩⟩⟩⟩⟩⟩
set_option maxRecDepth 20000 in
theorem ok_X4_cook : px_okMt kt_mt kt_T vwCl kt_X M_X4_cook := px_mk (M := M_X4_cook) rfl (by decide) ⟨by decide, by decide⟩ (by decide) kw_98 kw_164 trivial de_X4_cook (by decide +kernel) lk_X4_cook
set_option maxRecDepth 20000 in
theorem de_X4_look : px_dec cX4_look (ls_X4_look ++ ll_X4_look) := by unfold px_dec; decide +kernel
set_option maxRecDepth 20000 in
set_option maxHeartbeats 4000000 in
theorem lk_X4_look : ∀ q ∈ ll_X4_look, px_okR kt_mt kt_T vwCl kt_X yX4_look cX4_look q.1 q.2 := List.forall_mem_cons.mpr ⟨px_k_get fk_X4_101, List.forall_mem_cons.mpr ⟨px_k_ldc2 kw_165, List.forall_mem_cons.mpr ⟨px_k_get fk_X4_43, List.forall_mem_cons.mpr ⟨px_k_max kt_no1001 ⟨kw_129, kw_130, kw_131, kw_132⟩, List.forall_mem_cons.mpr ⟨px_k_get fk_X4_43, List.forall_mem_cons.mpr ⟨px_k_get fk_X4_43, List.forall_mem_cons.mpr ⟨px_k_get fk_X4_43, List.forall_mem_cons.mpr ⟨px_k_get fk_X4_43, List.forall_mem_cons.mpr ⟨px_k_get fk_X4_43, List.forall_mem_cons.mpr ⟨px_k_get fk_X4_43, List.forall_mem_cons.mpr ⟨px_k_get fk_X4_105, fun _ h => nomatch h⟩⟩⟩⟩⟩⟩⟩⟩⟩⟩⟩
set_option maxRecDepth 20000 in
theorem ok_X4_look : px_okMt kt_mt kt_T vwCl kt_X M_X4_look := px_mk (M := M_X4_look) rfl (by decide) ⟨by decide, by decide⟩ (by decide) kw_98 kw_166 trivial de_X4_look (by decide +kernel) lk_X4_look
set_option maxRecDepth 20000 in
theorem de_X5_init : px_dec cX5_init (ls_X5_init ++ ll_X5_init) := by unfold px_dec; decide +kernel
set_option maxRecDepth 20000 in
set_option maxHeartbeats 4000000 in
theorem lk_X5_init : ∀ q ∈ ll_X5_init, px_okR kt_mt kt_T vwCl kt_X yX5_init cX5_init q.1 q.2 := List.forall_mem_cons.mpr ⟨px_k_obj kt_no1000 ⟨kw_167, kw_1, kw_2⟩, List.forall_mem_cons.mpr ⟨px_k_arr (Or.inl ⟨rfl, rfl, kw_3⟩), List.forall_mem_cons.mpr ⟨px_k_put pk_X5_9_X5_init, List.forall_mem_cons.mpr ⟨px_k_arr (Or.inl ⟨rfl, rfl, kw_3⟩), List.forall_mem_cons.mpr ⟨px_k_put pk_X5_15_X5_init, List.forall_mem_cons.mpr ⟨px_k_arr (Or.inl ⟨rfl, rfl, kw_3⟩), List.forall_mem_cons.mpr ⟨px_k_put pk_X5_18_X5_init, List.forall_mem_cons.mpr ⟨px_k_put pk_X5_21, fun _ h => nomatch h⟩⟩⟩⟩⟩⟩⟩⟩
set_option maxRecDepth 20000 in
theorem ok_X5_init : px_okMt kt_mt kt_T vwCl kt_X M_X5_init := px_mk (M := M_X5_init) rfl (by decide) ⟨by decide, by decide⟩ (by decide) kw_172 kw_173 trivial de_X5_init (by decide +kernel) lk_X5_init
set_option maxRecDepth 20000 in
theorem de_X5_plan : px_dec cX5_plan (ls_X5_plan ++ ll_X5_plan) := by unfold px_dec; decide +kernel
set_option maxRecDepth 20000 in
set_option maxHeartbeats 4000000 in
theorem lk_X5_plan : ∀ q ∈ ll_X5_plan, px_okR kt_mt kt_T vwCl kt_X yX5_plan cX5_plan q.1 q.2 := List.forall_mem_cons.mpr ⟨px_k_get fk_X5_21, List.forall_mem_cons.mpr ⟨px_k_put pk_X5_21, List.forall_mem_cons.mpr ⟨px_k_put pk_X5_25, List.forall_mem_cons.mpr ⟨px_k_get fk_X5_18, List.forall_mem_cons.mpr ⟨px_k_sta (by decide) mt_236 ⟨kw_175, kw_33, pd_236⟩, List.forall_mem_cons.mpr ⟨px_k_vir (by decide) mt_36 ⟨rfl, kw_176, kw_177, kw_178, ⟨_, _, rfl⟩, pd_36⟩, fun _ h => nomatch h⟩⟩⟩⟩⟩⟩
set_option maxRecDepth 20000 in
theorem ok_X5_plan : px_okMt kt_mt kt_T vwCl kt_X M_X5_plan := px_mk (M := M_X5_plan) rfl (by decide) ⟨by decide, by decide⟩ (by decide) kw_172 kw_179 trivial de_X5_plan (by decide +kernel) lk_X5_plan
set_option maxRecDepth 20000 in
theorem de_X5_search : px_dec cX5_search (ls_X5_search ++ ll_X5_search) := by unfold px_dec; decide +kernel
set_option maxRecDepth 20000 in
set_option maxHeartbeats 4000000 in
theorem lk_X5_search : ∀ q ∈ ll_X5_search, px_okR kt_mt kt_T vwCl kt_X yX5_search cX5_search q.1 q.2 := List.forall_mem_cons.mpr ⟨px_k_get fk_X5_38, List.forall_mem_cons.mpr ⟨px_k_get fk_X5_43, List.forall_mem_cons.mpr ⟨px_k_get fk_X5_43, List.forall_mem_cons.mpr ⟨px_k_vir (by decide) mt_37 ⟨rfl, kw_182, kw_183, kw_184, ⟨_, _, rfl⟩, pd_37⟩, List.forall_mem_cons.mpr ⟨px_k_vir (by decide) mt_38 ⟨rfl, kw_185, kw_186, kw_187, ⟨_, _, rfl⟩, pd_38⟩, List.forall_mem_cons.mpr ⟨px_k_vir (by decide) mt_40 ⟨rfl, kw_188, kw_189, kw_190, ⟨_, _, rfl⟩, pd_40⟩, List.forall_mem_cons.mpr ⟨px_k_put pk_X5_25, List.forall_mem_cons.mpr ⟨px_k_get fk_X5_15, List.forall_mem_cons.mpr ⟨px_k_get fk_X5_18, List.forall_mem_cons.mpr ⟨px_k_get fk_X5_43, List.forall_mem_cons.mpr ⟨px_k_cpy kt_no1004 ⟨kw_191, kw_11, kw_12, kw_13⟩, fun _ h => nomatch h⟩⟩⟩⟩⟩⟩⟩⟩⟩⟩⟩
set_option maxRecDepth 20000 in
theorem ok_X5_search : px_okMt kt_mt kt_T vwCl kt_X M_X5_search := px_mk (M := M_X5_search) rfl (by decide) ⟨by decide, by decide⟩ (by decide) kw_172 kw_192 trivial de_X5_search (by decide +kernel) lk_X5_search
set_option maxRecDepth 20000 in
theorem de_X5_choose : px_dec cX5_choose (ls_X5_choose ++ ll_X5_choose) := by unfold px_dec; decide +kernel
set_option maxRecDepth 20000 in
set_option maxHeartbeats 4000000 in
theorem lk_X5_choose : ∀ q ∈ ll_X5_choose, px_okR kt_mt kt_T vwCl kt_X yX5_choose cX5_choose q.1 q.2 := List.forall_mem_cons.mpr ⟨px_k_get fk_X5_15, List.forall_mem_cons.mpr ⟨px_k_get fk_X5_15, List.forall_mem_cons.mpr ⟨px_k_get fk_X5_15, fun _ h => nomatch h⟩⟩⟩
set_option maxRecDepth 20000 in
theorem ok_X5_choose : px_okMt kt_mt kt_T vwCl kt_X M_X5_choose := px_mk (M := M_X5_choose) rfl (by decide) ⟨by decide, by decide⟩ (by decide) kw_172 kw_193 trivial de_X5_choose (by decide +kernel) lk_X5_choose
set_option maxRecDepth 20000 in
theorem de_X5_setOut : px_dec cX5_setOut (ls_X5_setOut ++ ll_X5_setOut) := by unfold px_dec; decide +kernel
set_option maxRecDepth 20000 in
set_option maxHeartbeats 4000000 in
theorem lk_X5_setOut : ∀ q ∈ ll_X5_setOut, px_okR kt_mt kt_T vwCl kt_X yX5_setOut cX5_setOut q.1 q.2 := List.forall_mem_cons.mpr ⟨px_k_get fk_X5_9, List.forall_mem_cons.mpr ⟨px_k_cpy kt_no1004 ⟨kw_191, kw_11, kw_12, kw_13⟩, List.forall_mem_cons.mpr ⟨px_k_get fk_X5_38, List.forall_mem_cons.mpr ⟨px_k_get fk_X5_9, List.forall_mem_cons.mpr ⟨px_k_get fk_X5_43, List.forall_mem_cons.mpr ⟨px_k_get fk_X5_15, List.forall_mem_cons.mpr ⟨px_k_get fk_X5_9, List.forall_mem_cons.mpr ⟨px_k_get fk_X5_15, fun _ h => nomatch h⟩⟩⟩⟩⟩⟩⟩⟩
set_option maxRecDepth 20000 in
theorem ok_X5_setOut : px_okMt kt_mt kt_T vwCl kt_X M_X5_setOut := px_mk (M := M_X5_setOut) rfl (by decide) ⟨by decide, by decide⟩ (by decide) kw_172 kw_194 trivial de_X5_setOut (by decide +kernel) lk_X5_setOut
set_option maxRecDepth 20000 in
theorem de_X5_enoughVoices : px_dec cX5_enoughVoices (ls_X5_enoughVoices ++ ll_X5_enoughVoices) := by unfold px_dec; decide +kernel
set_option maxRecDepth 20000 in
set_option maxHeartbeats 4000000 in
theorem lk_X5_enoughVoices : ∀ q ∈ ll_X5_enoughVoices, px_okR kt_mt kt_T vwCl kt_X yX5_enoughVoices cX5_enoughVoices q.1 q.2 := List.forall_mem_cons.mpr ⟨px_k_get fk_X5_38, List.forall_mem_cons.mpr ⟨px_k_get fk_X5_9, List.forall_mem_cons.mpr ⟨px_k_get fk_X5_9, List.forall_mem_cons.mpr ⟨px_k_get fk_X5_9, List.forall_mem_cons.mpr ⟨px_k_vir (by decide) mt_27 ⟨rfl, kw_195, kw_144, kw_145, ⟨_, _, rfl⟩, pd_27⟩, List.forall_mem_cons.mpr ⟨px_k_get fk_X5_68, fun _ h => nomatch h⟩⟩⟩⟩⟩⟩
set_option maxRecDepth 20000 in
theorem ok_X5_enoughVoices : px_okMt kt_mt kt_T vwCl kt_X M_X5_enoughVoices := px_mk (M := M_X5_enoughVoices) rfl (by decide) ⟨by decide, by decide⟩ (by decide) kw_172 kw_197 trivial de_X5_enoughVoices (by decide +kernel) lk_X5_enoughVoices
