/-! ===== printed by wip/whole/gen.py: the methods of the tables are right ===== -/
set_option maxRecDepth 20000 in
theorem de_X5_readyMinute : px_dec cX5_readyMinute (ls_X5_readyMinute ++ ll_X5_readyMinute) := by unfold px_dec; decide +kernel
set_option maxRecDepth 20000 in
set_option maxHeartbeats 4000000 in
theorem lk_X5_readyMinute : ∀ q ∈ ll_X5_readyMinute, px_okR kt_mt kt_T vwCl kt_X yX5_readyMinute cX5_readyMinute q.1 q.2 := List.forall_mem_cons.mpr ⟨px_k_vir (by decide) mt_39 ⟨rfl, kw_198, kw_199, kw_200, ⟨_, _, rfl⟩, pd_39⟩, List.forall_mem_cons.mpr ⟨px_k_get fk_X5_9, List.forall_mem_cons.mpr ⟨px_k_vir (by decide) mt_23 ⟨rfl, kw_201, kw_43, kw_44, ⟨_, _, rfl⟩, pd_23⟩, List.forall_mem_cons.mpr ⟨px_k_get fk_X5_9, fun _ h => nomatch h⟩⟩⟩⟩
set_option maxRecDepth 20000 in
theorem ok_X5_readyMinute : px_okMt kt_mt kt_T vwCl kt_X M_X5_readyMinute := px_mk (M := M_X5_readyMinute) rfl (by decide) ⟨by decide, by decide⟩ (by decide) kw_172 kw_202 trivial de_X5_readyMinute (by decide +kernel) lk_X5_readyMinute
set_option maxRecDepth 20000 in
theorem de_X6_init : px_dec cX6_init (ls_X6_init ++ ll_X6_init) := by unfold px_dec; decide +kernel
set_option maxRecDepth 20000 in
set_option maxHeartbeats 4000000 in
theorem lk_X6_init : ∀ q ∈ ll_X6_init, px_okR kt_mt kt_T vwCl kt_X yX6_init cX6_init q.1 q.2 := List.forall_mem_cons.mpr ⟨px_k_obj kt_no1000 ⟨kw_203, kw_1, kw_2⟩, List.forall_mem_cons.mpr ⟨px_k_arr (Or.inr (Or.inr ⟨rfl, rfl, kw_204⟩)), List.forall_mem_cons.mpr ⟨px_k_put pk_X6_9_X6_init, List.forall_mem_cons.mpr ⟨px_k_new (C := RX4) (T := TX4) (by decide) rfl kw_206, List.forall_mem_cons.mpr ⟨px_k_spe (by decide) mt_18 ⟨rfl, rfl, rfl, kw_207, pd_18, Or.inr ⟨"KettleChoir", List.mem_of_getElem? (i := 11) rfl⟩⟩, List.forall_mem_cons.mpr ⟨px_k_put pk_X6_18_X6_init, List.forall_mem_cons.mpr ⟨px_k_put pk_X6_22, fun _ h => nomatch h⟩⟩⟩⟩⟩⟩⟩
set_option maxRecDepth 20000 in
theorem ok_X6_init : px_okMt kt_mt kt_T vwCl kt_X M_X6_init := px_mk (M := M_X6_init) rfl (by decide) ⟨by decide, by decide⟩ (by decide) kw_210 kw_211 trivial de_X6_init (by decide +kernel) lk_X6_init
set_option maxRecDepth 20000 in
theorem de_X6_append : px_dec cX6_append (ls_X6_append ++ ll_X6_append) := by unfold px_dec; decide +kernel
set_option maxRecDepth 20000 in
set_option maxHeartbeats 4000000 in
theorem lk_X6_append : ∀ q ∈ ll_X6_append, px_okR kt_mt kt_T vwCl kt_X yX6_append cX6_append q.1 q.2 := List.forall_mem_cons.mpr ⟨px_k_get fk_X6_26, List.forall_mem_cons.mpr ⟨px_k_get fk_X6_9, List.forall_mem_cons.mpr ⟨px_k_get fk_X6_26, List.forall_mem_cons.mpr ⟨px_k_get fk_X6_26, List.forall_mem_cons.mpr ⟨px_k_put pk_X6_26, fun _ h => nomatch h⟩⟩⟩⟩⟩
set_option maxRecDepth 20000 in
theorem ok_X6_append : px_okMt kt_mt kt_T vwCl kt_X M_X6_append := px_mk (M := M_X6_append) rfl (by decide) ⟨by decide, by decide⟩ (by decide) kw_210 kw_213 trivial de_X6_append (by decide +kernel) lk_X6_append
set_option maxRecDepth 20000 in
theorem de_X6_read : px_dec cX6_read (ls_X6_read ++ ll_X6_read) := by unfold px_dec; decide +kernel
set_option maxRecDepth 20000 in
set_option maxHeartbeats 4000000 in
theorem lk_X6_read : ∀ q ∈ ll_X6_read, px_okR kt_mt kt_T vwCl kt_X yX6_read cX6_read q.1 q.2 := List.forall_mem_cons.mpr ⟨px_k_get fk_X6_26, List.forall_mem_cons.mpr ⟨px_k_min kt_no1002 ⟨kw_214, kw_134, kw_131, kw_135⟩, List.forall_mem_cons.mpr ⟨px_k_put pk_X6_35, List.forall_mem_cons.mpr ⟨px_k_put pk_X6_26, List.forall_mem_cons.mpr ⟨px_k_put pk_X6_38, List.forall_mem_cons.mpr ⟨px_k_put pk_X6_41, List.forall_mem_cons.mpr ⟨px_k_put pk_X6_22, List.forall_mem_cons.mpr ⟨px_k_put pk_X6_44, List.forall_mem_cons.mpr ⟨px_k_get fk_X6_18, List.forall_mem_cons.mpr ⟨px_k_vir (by decide) mt_19 ⟨rfl, kw_219, kw_220, kw_221, ⟨_, _, rfl⟩, pd_19⟩, List.forall_mem_cons.mpr ⟨px_k_vir (by decide) mt_65 ⟨rfl, kw_222, kw_223, kw_224, ⟨_, _, rfl⟩, pd_65⟩, List.forall_mem_cons.mpr ⟨px_k_get fk_X6_41, List.forall_mem_cons.mpr ⟨px_k_get fk_X6_54, List.forall_mem_cons.mpr ⟨px_k_vir (by decide) mt_44 ⟨rfl, kw_226, kw_227, kw_228, ⟨_, _, rfl⟩, pd_44⟩, List.forall_mem_cons.mpr ⟨px_k_vir (by decide) mt_61 ⟨rfl, kw_229, kw_230, kw_231, ⟨_, _, rfl⟩, pd_61⟩, List.forall_mem_cons.mpr ⟨px_k_get fk_X6_41, fun _ h => nomatch h⟩⟩⟩⟩⟩⟩⟩⟩⟩⟩⟩⟩⟩⟩⟩⟩
set_option maxRecDepth 20000 in
theorem ok_X6_read : px_okMt kt_mt kt_T vwCl kt_X M_X6_read := px_mk (M := M_X6_read) rfl (by decide) ⟨by decide, by decide⟩ (by decide) kw_210 kw_232 trivial de_X6_read (by decide +kernel) lk_X6_read
set_option maxRecDepth 20000 in
theorem de_X6_line : px_dec cX6_line (ls_X6_line ++ ll_X6_line) := by unfold px_dec; decide +kernel
set_option maxRecDepth 20000 in
set_option maxHeartbeats 4000000 in
theorem lk_X6_line : ∀ q ∈ ll_X6_line, px_okR kt_mt kt_T vwCl kt_X yX6_line cX6_line q.1 q.2 := List.forall_mem_cons.mpr ⟨px_k_vir (by decide) mt_57 ⟨rfl, kw_233, kw_234, kw_235, ⟨_, _, rfl⟩, pd_57⟩, List.forall_mem_cons.mpr ⟨px_k_vir (by decide) mt_45 ⟨rfl, kw_236, kw_237, kw_238, ⟨_, _, rfl⟩, pd_45⟩, List.forall_mem_cons.mpr ⟨px_k_ldcs (k := 19) (by decide) (rfl : kt_X.1[19]? = some (_, _, "stove")), List.forall_mem_cons.mpr ⟨px_k_vir (by decide) mt_63 ⟨rfl, kw_239, kw_240, kw_241, ⟨_, _, rfl⟩, pd_63⟩, List.forall_mem_cons.mpr ⟨px_k_vir (by decide) mt_46 ⟨rfl, kw_242, kw_243, kw_244, ⟨_, _, rfl⟩, pd_46⟩, List.forall_mem_cons.mpr ⟨px_k_ldcs (k := 20) (by decide) (rfl : kt_X.1[20]? = some (_, _, "dish")), List.forall_mem_cons.mpr ⟨px_k_vir (by decide) mt_63 ⟨rfl, kw_239, kw_240, kw_241, ⟨_, _, rfl⟩, pd_63⟩, List.forall_mem_cons.mpr ⟨px_k_vir (by decide) mt_47 ⟨rfl, kw_245, kw_246, kw_247, ⟨_, _, rfl⟩, pd_47⟩, List.forall_mem_cons.mpr ⟨px_k_ldcs (k := 21) (by decide) (rfl : kt_X.1[21]? = some (_, _, "lifts")), List.forall_mem_cons.mpr ⟨px_k_vir (by decide) mt_63 ⟨rfl, kw_239, kw_240, kw_241, ⟨_, _, rfl⟩, pd_63⟩, List.forall_mem_cons.mpr ⟨px_k_vir (by decide) mt_50 ⟨rfl, kw_248, kw_249, kw_250, ⟨_, _, rfl⟩, pd_50⟩, List.forall_mem_cons.mpr ⟨px_k_vir (by decide) mt_62 ⟨rfl, kw_251, kw_252, kw_253, ⟨_, _, rfl⟩, pd_62⟩, fun _ h => nomatch h⟩⟩⟩⟩⟩⟩⟩⟩⟩⟩⟩⟩
set_option maxRecDepth 20000 in
theorem ok_X6_line : px_okMt kt_mt kt_T vwCl kt_X M_X6_line := px_mk (M := M_X6_line) rfl (by decide) ⟨by decide, by decide⟩ (by decide) kw_210 kw_254 trivial de_X6_line (by decide +kernel) lk_X6_line
set_option maxRecDepth 20000 in
theorem de_X6_kettleLine : px_dec cX6_kettleLine (ls_X6_kettleLine ++ ll_X6_kettleLine) := by unfold px_dec; decide +kernel
set_option maxRecDepth 20000 in
set_option maxHeartbeats 4000000 in
theorem lk_X6_kettleLine : ∀ q ∈ ll_X6_kettleLine, px_okR kt_mt kt_T vwCl kt_X yX6_kettleLine cX6_kettleLine q.1 q.2 := List.forall_mem_cons.mpr ⟨px_k_get fk_X6_18, List.forall_mem_cons.mpr ⟨px_k_get fk_X6_94, List.forall_mem_cons.mpr ⟨px_k_vir (by decide) mt_62 ⟨rfl, kw_251, kw_252, kw_253, ⟨_, _, rfl⟩, pd_62⟩, List.forall_mem_cons.mpr ⟨px_k_vir (by decide) mt_65 ⟨rfl, kw_222, kw_223, kw_224, ⟨_, _, rfl⟩, pd_65⟩, List.forall_mem_cons.mpr ⟨px_k_get fk_X6_18, List.forall_mem_cons.mpr ⟨px_k_get fk_X6_97, List.forall_mem_cons.mpr ⟨px_k_get fk_X6_18, List.forall_mem_cons.mpr ⟨px_k_get fk_X6_101, List.forall_mem_cons.mpr ⟨px_k_vir (by decide) mt_59 ⟨rfl, kw_258, kw_259, kw_260, ⟨_, _, rfl⟩, pd_59⟩, List.forall_mem_cons.mpr ⟨px_k_get fk_X6_18, List.forall_mem_cons.mpr ⟨px_k_get fk_X6_107, List.forall_mem_cons.mpr ⟨px_k_vir (by decide) mt_59 ⟨rfl, kw_258, kw_259, kw_260, ⟨_, _, rfl⟩, pd_59⟩, List.forall_mem_cons.mpr ⟨px_k_get fk_X6_18, List.forall_mem_cons.mpr ⟨px_k_get fk_X6_110, List.forall_mem_cons.mpr ⟨px_k_get fk_X6_18, List.forall_mem_cons.mpr ⟨px_k_get fk_X6_107, List.forall_mem_cons.mpr ⟨px_k_vir (by decide) mt_59 ⟨rfl, kw_258, kw_259, kw_260, ⟨_, _, rfl⟩, pd_59⟩, List.forall_mem_cons.mpr ⟨px_k_get fk_X6_18, List.forall_mem_cons.mpr ⟨px_k_get fk_X6_113, List.forall_mem_cons.mpr ⟨px_k_vir (by decide) mt_59 ⟨rfl, kw_258, kw_259, kw_260, ⟨_, _, rfl⟩, pd_59⟩, List.forall_mem_cons.mpr ⟨px_k_get fk_X6_18, List.forall_mem_cons.mpr ⟨px_k_get fk_X6_94, List.forall_mem_cons.mpr ⟨px_k_put pk_X6_94, fun _ h => nomatch h⟩⟩⟩⟩⟩⟩⟩⟩⟩⟩⟩⟩⟩⟩⟩⟩⟩⟩⟩⟩⟩⟩⟩
set_option maxRecDepth 20000 in
theorem ok_X6_kettleLine : px_okMt kt_mt kt_T vwCl kt_X M_X6_kettleLine := px_mk (M := M_X6_kettleLine) rfl (by decide) ⟨by decide, by decide⟩ (by decide) kw_210 kw_264 trivial de_X6_kettleLine (by decide +kernel) lk_X6_kettleLine
set_option maxRecDepth 20000 in
theorem de_X6_stoveLine : px_dec cX6_stoveLine (ls_X6_stoveLine ++ ll_X6_stoveLine) := by unfold px_dec; decide +kernel
set_option maxRecDepth 20000 in
set_option maxHeartbeats 4000000 in
theorem lk_X6_stoveLine : ∀ q ∈ ll_X6_stoveLine, px_okR kt_mt kt_T vwCl kt_X yX6_stoveLine cX6_stoveLine q.1 q.2 := List.forall_mem_cons.mpr ⟨px_k_get fk_X6_18, List.forall_mem_cons.mpr ⟨px_k_get fk_X6_116, List.forall_mem_cons.mpr ⟨px_k_vir (by decide) mt_62 ⟨rfl, kw_251, kw_252, kw_253, ⟨_, _, rfl⟩, pd_62⟩, List.forall_mem_cons.mpr ⟨px_k_vir (by decide) mt_65 ⟨rfl, kw_222, kw_223, kw_224, ⟨_, _, rfl⟩, pd_65⟩, List.forall_mem_cons.mpr ⟨px_k_get fk_X6_18, List.forall_mem_cons.mpr ⟨px_k_get fk_X6_119, List.forall_mem_cons.mpr ⟨px_k_vir (by decide) mt_59 ⟨rfl, kw_258, kw_259, kw_260, ⟨_, _, rfl⟩, pd_59⟩, List.forall_mem_cons.mpr ⟨px_k_get fk_X6_18, List.forall_mem_cons.mpr ⟨px_k_get fk_X6_116, List.forall_mem_cons.mpr ⟨px_k_put pk_X6_116, fun _ h => nomatch h⟩⟩⟩⟩⟩⟩⟩⟩⟩⟩
set_option maxRecDepth 20000 in
theorem ok_X6_stoveLine : px_okMt kt_mt kt_T vwCl kt_X M_X6_stoveLine := px_mk (M := M_X6_stoveLine) rfl (by decide) ⟨by decide, by decide⟩ (by decide) kw_210 kw_267 trivial de_X6_stoveLine (by decide +kernel) lk_X6_stoveLine
set_option maxRecDepth 20000 in
theorem de_X6_dishLine : px_dec cX6_dishLine (ls_X6_dishLine ++ ll_X6_dishLine) := by unfold px_dec; decide +kernel
set_option maxRecDepth 20000 in
set_option maxHeartbeats 4000000 in
theorem lk_X6_dishLine : ∀ q ∈ ll_X6_dishLine, px_okR kt_mt kt_T vwCl kt_X yX6_dishLine cX6_dishLine q.1 q.2 := List.forall_mem_cons.mpr ⟨px_k_get fk_X6_18, List.forall_mem_cons.mpr ⟨px_k_get fk_X6_122, List.forall_mem_cons.mpr ⟨px_k_vir (by decide) mt_62 ⟨rfl, kw_251, kw_252, kw_253, ⟨_, _, rfl⟩, pd_62⟩, List.forall_mem_cons.mpr ⟨px_k_vir (by decide) mt_65 ⟨rfl, kw_222, kw_223, kw_224, ⟨_, _, rfl⟩, pd_65⟩, List.forall_mem_cons.mpr ⟨px_k_get fk_X6_18, List.forall_mem_cons.mpr ⟨px_k_get fk_X6_125, List.forall_mem_cons.mpr ⟨px_k_vir (by decide) mt_48 ⟨rfl, kw_270, kw_271, kw_272, ⟨_, _, rfl⟩, pd_48⟩, List.forall_mem_cons.mpr ⟨px_k_get fk_X6_41, List.forall_mem_cons.mpr ⟨px_k_get fk_X6_54, List.forall_mem_cons.mpr ⟨px_k_vir (by decide) mt_48 ⟨rfl, kw_270, kw_271, kw_272, ⟨_, _, rfl⟩, pd_48⟩, List.forall_mem_cons.mpr ⟨px_k_get fk_X6_18, List.forall_mem_cons.mpr ⟨px_k_get fk_X6_122, List.forall_mem_cons.mpr ⟨px_k_put pk_X6_122, fun _ h => nomatch h⟩⟩⟩⟩⟩⟩⟩⟩⟩⟩⟩⟩⟩
set_option maxRecDepth 20000 in
theorem ok_X6_dishLine : px_okMt kt_mt kt_T vwCl kt_X M_X6_dishLine := px_mk (M := M_X6_dishLine) rfl (by decide) ⟨by decide, by decide⟩ (by decide) kw_210 kw_273 trivial de_X6_dishLine (by decide +kernel) lk_X6_dishLine
set_option maxRecDepth 20000 in
theorem de_X6_step : px_dec cX6_step (ls_X6_step ++ ll_X6_step) := by unfold px_dec; decide +kernel
set_option maxRecDepth 20000 in
set_option maxHeartbeats 4000000 in
theorem lk_X6_step : ∀ q ∈ ll_X6_step, px_okR kt_mt kt_T vwCl kt_X yX6_step cX6_step q.1 q.2 := List.forall_mem_cons.mpr ⟨px_k_get fk_X6_18, List.forall_mem_cons.mpr ⟨px_k_get fk_X6_125, List.forall_mem_cons.mpr ⟨px_k_get fk_X6_54, List.forall_mem_cons.mpr ⟨px_k_vir (by decide) mt_62 ⟨rfl, kw_251, kw_252, kw_253, ⟨_, _, rfl⟩, pd_62⟩, List.forall_mem_cons.mpr ⟨px_k_vir (by decide) mt_60 ⟨rfl, kw_274, kw_275, kw_276, ⟨_, _, rfl⟩, pd_60⟩, List.forall_mem_cons.mpr ⟨px_k_vir (by decide) mt_49 ⟨rfl, kw_277, kw_278, kw_279, ⟨_, _, rfl⟩, pd_49⟩, List.forall_mem_cons.mpr ⟨px_k_vir (by decide) mt_62 ⟨rfl, kw_251, kw_252, kw_253, ⟨_, _, rfl⟩, pd_62⟩, List.forall_mem_cons.mpr ⟨px_k_get fk_X6_41, List.forall_mem_cons.mpr ⟨px_k_get fk_X6_18, List.forall_mem_cons.mpr ⟨px_k_get fk_X6_139, List.forall_mem_cons.mpr ⟨px_k_get fk_X6_141, List.forall_mem_cons.mpr ⟨px_k_get fk_X6_18, List.forall_mem_cons.mpr ⟨px_k_get fk_X6_125, List.forall_mem_cons.mpr ⟨px_k_vir (by decide) mt_65 ⟨rfl, kw_222, kw_223, kw_224, ⟨_, _, rfl⟩, pd_65⟩, fun _ h => nomatch h⟩⟩⟩⟩⟩⟩⟩⟩⟩⟩⟩⟩⟩⟩
set_option maxRecDepth 20000 in
theorem ok_X6_step : px_okMt kt_mt kt_T vwCl kt_X M_X6_step := px_mk (M := M_X6_step) rfl (by decide) ⟨by decide, by decide⟩ (by decide) kw_210 kw_282 trivial de_X6_step (by decide +kernel) lk_X6_step
set_option maxRecDepth 20000 in
theorem de_X6_hasStep : px_dec cX6_hasStep (ls_X6_hasStep ++ ll_X6_hasStep) := by unfold px_dec; decide +kernel
set_option maxRecDepth 20000 in
set_option maxHeartbeats 4000000 in
theorem lk_X6_hasStep : ∀ q ∈ ll_X6_hasStep, px_okR kt_mt kt_T vwCl kt_X yX6_hasStep cX6_hasStep q.1 q.2 := List.forall_mem_cons.mpr ⟨px_k_get fk_X6_18, List.forall_mem_cons.mpr ⟨px_k_get fk_X6_125, List.forall_mem_cons.mpr ⟨px_k_get fk_X6_18, List.forall_mem_cons.mpr ⟨px_k_get fk_X6_139, List.forall_mem_cons.mpr ⟨px_k_get fk_X6_141, fun _ h => nomatch h⟩⟩⟩⟩⟩
set_option maxRecDepth 20000 in
theorem ok_X6_hasStep : px_okMt kt_mt kt_T vwCl kt_X M_X6_hasStep := px_mk (M := M_X6_hasStep) rfl (by decide) ⟨by decide, by decide⟩ (by decide) kw_210 kw_283 trivial de_X6_hasStep (by decide +kernel) lk_X6_hasStep
set_option maxRecDepth 20000 in
theorem de_X6_liftsLine : px_dec cX6_liftsLine (ls_X6_liftsLine ++ ll_X6_liftsLine) := by unfold px_dec; decide +kernel
set_option maxRecDepth 20000 in
set_option maxHeartbeats 4000000 in
theorem lk_X6_liftsLine : ∀ q ∈ ll_X6_liftsLine, px_okR kt_mt kt_T vwCl kt_X yX6_liftsLine cX6_liftsLine q.1 q.2 := List.forall_mem_cons.mpr ⟨px_k_get fk_X6_44, List.forall_mem_cons.mpr ⟨px_k_vir (by decide) mt_62 ⟨rfl, kw_251, kw_252, kw_253, ⟨_, _, rfl⟩, pd_62⟩, List.forall_mem_cons.mpr ⟨px_k_put pk_X6_44, List.forall_mem_cons.mpr ⟨px_k_vir (by decide) mt_65 ⟨rfl, kw_222, kw_223, kw_224, ⟨_, _, rfl⟩, pd_65⟩, List.forall_mem_cons.mpr ⟨px_k_vir (by decide) mt_51 ⟨rfl, kw_284, kw_285, kw_286, ⟨_, _, rfl⟩, pd_51⟩, fun _ h => nomatch h⟩⟩⟩⟩⟩
set_option maxRecDepth 20000 in
theorem ok_X6_liftsLine : px_okMt kt_mt kt_T vwCl kt_X M_X6_liftsLine := px_mk (M := M_X6_liftsLine) rfl (by decide) ⟨by decide, by decide⟩ (by decide) kw_210 kw_287 trivial de_X6_liftsLine (by decide +kernel) lk_X6_liftsLine
set_option maxRecDepth 20000 in
theorem de_X6_expr : px_dec cX6_expr (ls_X6_expr ++ ll_X6_expr) := by unfold px_dec; decide +kernel
set_option maxRecDepth 20000 in
set_option maxHeartbeats 4000000 in
theorem lk_X6_expr : ∀ q ∈ ll_X6_expr, px_okR kt_mt kt_T vwCl kt_X yX6_expr cX6_expr q.1 q.2 := List.forall_mem_cons.mpr ⟨px_k_get fk_X6_54, List.forall_mem_cons.mpr ⟨px_k_get fk_X6_54, List.forall_mem_cons.mpr ⟨px_k_vir (by decide) mt_64 ⟨rfl, kw_288, kw_289, kw_290, ⟨_, _, rfl⟩, pd_64⟩, List.forall_mem_cons.mpr ⟨px_k_vir (by decide) mt_62 ⟨rfl, kw_251, kw_252, kw_253, ⟨_, _, rfl⟩, pd_62⟩, List.forall_mem_cons.mpr ⟨px_k_vir (by decide) mt_52 ⟨rfl, kw_291, kw_292, kw_293, ⟨_, _, rfl⟩, pd_52⟩, List.forall_mem_cons.mpr ⟨px_k_ldcs (k := 22) (by decide) (rfl : kt_X.1[22]? = some (_, _, "or")), List.forall_mem_cons.mpr ⟨px_k_vir (by decide) mt_63 ⟨rfl, kw_239, kw_240, kw_241, ⟨_, _, rfl⟩, pd_63⟩, List.forall_mem_cons.mpr ⟨px_k_vir (by decide) mt_65 ⟨rfl, kw_222, kw_223, kw_224, ⟨_, _, rfl⟩, pd_65⟩, List.forall_mem_cons.mpr ⟨px_k_vir (by decide) mt_52 ⟨rfl, kw_291, kw_292, kw_293, ⟨_, _, rfl⟩, pd_52⟩, List.forall_mem_cons.mpr ⟨px_k_get fk_X6_18, List.forall_mem_cons.mpr ⟨px_k_get fk_X6_156, List.forall_mem_cons.mpr ⟨px_k_vir (by decide) mt_68 ⟨rfl, kw_295, kw_296, kw_297, ⟨_, _, rfl⟩, pd_68⟩, fun _ h => nomatch h⟩⟩⟩⟩⟩⟩⟩⟩⟩⟩⟩⟩
set_option maxRecDepth 20000 in
theorem ok_X6_expr : px_okMt kt_mt kt_T vwCl kt_X M_X6_expr := px_mk (M := M_X6_expr) rfl (by decide) ⟨by decide, by decide⟩ (by decide) kw_210 kw_298 trivial de_X6_expr (by decide +kernel) lk_X6_expr
set_option maxRecDepth 20000 in
theorem de_X6_both : px_dec cX6_both (ls_X6_both ++ ll_X6_both) := by unfold px_dec; decide +kernel
set_option maxRecDepth 20000 in
set_option maxHeartbeats 4000000 in
theorem lk_X6_both : ∀ q ∈ ll_X6_both, px_okR kt_mt kt_T vwCl kt_X yX6_both cX6_both q.1 q.2 := List.forall_mem_cons.mpr ⟨px_k_vir (by decide) mt_53 ⟨rfl, kw_299, kw_300, kw_301, ⟨_, _, rfl⟩, pd_53⟩, List.forall_mem_cons.mpr ⟨px_k_ldcs (k := 23) (by decide) (rfl : kt_X.1[23]? = some (_, _, "and")), List.forall_mem_cons.mpr ⟨px_k_vir (by decide) mt_63 ⟨rfl, kw_239, kw_240, kw_241, ⟨_, _, rfl⟩, pd_63⟩, List.forall_mem_cons.mpr ⟨px_k_vir (by decide) mt_65 ⟨rfl, kw_222, kw_223, kw_224, ⟨_, _, rfl⟩, pd_65⟩, List.forall_mem_cons.mpr ⟨px_k_vir (by decide) mt_53 ⟨rfl, kw_299, kw_300, kw_301, ⟨_, _, rfl⟩, pd_53⟩, List.forall_mem_cons.mpr ⟨px_k_get fk_X6_18, List.forall_mem_cons.mpr ⟨px_k_get fk_X6_156, List.forall_mem_cons.mpr ⟨px_k_vir (by decide) mt_68 ⟨rfl, kw_295, kw_296, kw_297, ⟨_, _, rfl⟩, pd_68⟩, fun _ h => nomatch h⟩⟩⟩⟩⟩⟩⟩⟩
set_option maxRecDepth 20000 in
theorem ok_X6_both : px_okMt kt_mt kt_T vwCl kt_X M_X6_both := px_mk (M := M_X6_both) rfl (by decide) ⟨by decide, by decide⟩ (by decide) kw_210 kw_302 trivial de_X6_both (by decide +kernel) lk_X6_both
set_option maxRecDepth 20000 in
theorem de_X6_test : px_dec cX6_test (ls_X6_test ++ ll_X6_test) := by unfold px_dec; decide +kernel
set_option maxRecDepth 20000 in
set_option maxHeartbeats 4000000 in
theorem lk_X6_test : ∀ q ∈ ll_X6_test, px_okR kt_mt kt_T vwCl kt_X yX6_test cX6_test q.1 q.2 := List.forall_mem_cons.mpr ⟨px_k_ldcs (k := 24) (by decide) (rfl : kt_X.1[24]? = some (_, _, "not")), List.forall_mem_cons.mpr ⟨px_k_vir (by decide) mt_63 ⟨rfl, kw_239, kw_240, kw_241, ⟨_, _, rfl⟩, pd_63⟩, List.forall_mem_cons.mpr ⟨px_k_vir (by decide) mt_65 ⟨rfl, kw_222, kw_223, kw_224, ⟨_, _, rfl⟩, pd_65⟩, List.forall_mem_cons.mpr ⟨px_k_ldcs (k := 24) (by decide) (rfl : kt_X.1[24]? = some (_, _, "not")), List.forall_mem_cons.mpr ⟨px_k_vir (by decide) mt_63 ⟨rfl, kw_239, kw_240, kw_241, ⟨_, _, rfl⟩, pd_63⟩, List.forall_mem_cons.mpr ⟨px_k_vir (by decide) mt_62 ⟨rfl, kw_251, kw_252, kw_253, ⟨_, _, rfl⟩, pd_62⟩, List.forall_mem_cons.mpr ⟨px_k_vir (by decide) mt_54 ⟨rfl, kw_303, kw_304, kw_305, ⟨_, _, rfl⟩, pd_54⟩, List.forall_mem_cons.mpr ⟨px_k_vir (by decide) mt_64 ⟨rfl, kw_288, kw_289, kw_290, ⟨_, _, rfl⟩, pd_64⟩, List.forall_mem_cons.mpr ⟨px_k_vir (by decide) mt_64 ⟨rfl, kw_288, kw_289, kw_290, ⟨_, _, rfl⟩, pd_64⟩, List.forall_mem_cons.mpr ⟨px_k_vir (by decide) mt_64 ⟨rfl, kw_288, kw_289, kw_290, ⟨_, _, rfl⟩, pd_64⟩, List.forall_mem_cons.mpr ⟨px_k_vir (by decide) mt_65 ⟨rfl, kw_222, kw_223, kw_224, ⟨_, _, rfl⟩, pd_65⟩, List.forall_mem_cons.mpr ⟨px_k_vir (by decide) mt_54 ⟨rfl, kw_303, kw_304, kw_305, ⟨_, _, rfl⟩, pd_54⟩, List.forall_mem_cons.mpr ⟨px_k_get fk_X6_18, List.forall_mem_cons.mpr ⟨px_k_get fk_X6_156, List.forall_mem_cons.mpr ⟨px_k_vir (by decide) mt_68 ⟨rfl, kw_295, kw_296, kw_297, ⟨_, _, rfl⟩, pd_68⟩, List.forall_mem_cons.mpr ⟨px_k_get fk_X6_18, List.forall_mem_cons.mpr ⟨px_k_get fk_X6_156, List.forall_mem_cons.mpr ⟨px_k_vir (by decide) mt_68 ⟨rfl, kw_295, kw_296, kw_297, ⟨_, _, rfl⟩, pd_68⟩, fun _ h => nomatch h⟩⟩⟩⟩⟩⟩⟩⟩⟩⟩⟩⟩⟩⟩⟩⟩⟩⟩
set_option maxRecDepth 20000 in
theorem ok_X6_test : px_okMt kt_mt kt_T vwCl kt_X M_X6_test := px_mk (M := M_X6_test) rfl (by decide) ⟨by decide, by decide⟩ (by decide) kw_210 kw_306 trivial de_X6_test (by decide +kernel) lk_X6_test
set_option maxRecDepth 20000 in
theorem de_X6_sum : px_dec cX6_sum (ls_X6_sum ++ ll_X6_sum) := by unfold px_dec; decide +kernel
set_option maxRecDepth 20000 in
set_option maxHeartbeats 4000000 in
theorem lk_X6_sum : ∀ q ∈ ll_X6_sum, px_okR kt_mt kt_T vwCl kt_X yX6_sum cX6_sum q.1 q.2 := List.forall_mem_cons.mpr ⟨px_k_vir (by decide) mt_55 ⟨rfl, kw_307, kw_308, kw_309, ⟨_, _, rfl⟩, pd_55⟩, List.forall_mem_cons.mpr ⟨px_k_vir (by decide) mt_64 ⟨rfl, kw_288, kw_289, kw_290, ⟨_, _, rfl⟩, pd_64⟩, List.forall_mem_cons.mpr ⟨px_k_vir (by decide) mt_64 ⟨rfl, kw_288, kw_289, kw_290, ⟨_, _, rfl⟩, pd_64⟩, List.forall_mem_cons.mpr ⟨px_k_vir (by decide) mt_64 ⟨rfl, kw_288, kw_289, kw_290, ⟨_, _, rfl⟩, pd_64⟩, List.forall_mem_cons.mpr ⟨px_k_vir (by decide) mt_65 ⟨rfl, kw_222, kw_223, kw_224, ⟨_, _, rfl⟩, pd_65⟩, List.forall_mem_cons.mpr ⟨px_k_vir (by decide) mt_55 ⟨rfl, kw_307, kw_308, kw_309, ⟨_, _, rfl⟩, pd_55⟩, List.forall_mem_cons.mpr ⟨px_k_get fk_X6_18, List.forall_mem_cons.mpr ⟨px_k_get fk_X6_156, List.forall_mem_cons.mpr ⟨px_k_vir (by decide) mt_68 ⟨rfl, kw_295, kw_296, kw_297, ⟨_, _, rfl⟩, pd_68⟩, fun _ h => nomatch h⟩⟩⟩⟩⟩⟩⟩⟩⟩
set_option maxRecDepth 20000 in
theorem ok_X6_sum : px_okMt kt_mt kt_T vwCl kt_X M_X6_sum := px_mk (M := M_X6_sum) rfl (by decide) ⟨by decide, by decide⟩ (by decide) kw_210 kw_310 trivial de_X6_sum (by decide +kernel) lk_X6_sum
set_option maxRecDepth 20000 in
theorem de_X6_product : px_dec cX6_product (ls_X6_product ++ ll_X6_product) := by unfold px_dec; decide +kernel
set_option maxRecDepth 20000 in
set_option maxHeartbeats 4000000 in
theorem lk_X6_product : ∀ q ∈ ll_X6_product, px_okR kt_mt kt_T vwCl kt_X yX6_product cX6_product q.1 q.2 := List.forall_mem_cons.mpr ⟨px_k_vir (by decide) mt_56 ⟨rfl, kw_311, kw_312, kw_313, ⟨_, _, rfl⟩, pd_56⟩, List.forall_mem_cons.mpr ⟨px_k_vir (by decide) mt_64 ⟨rfl, kw_288, kw_289, kw_290, ⟨_, _, rfl⟩, pd_64⟩, List.forall_mem_cons.mpr ⟨px_k_vir (by decide) mt_64 ⟨rfl, kw_288, kw_289, kw_290, ⟨_, _, rfl⟩, pd_64⟩, List.forall_mem_cons.mpr ⟨px_k_vir (by decide) mt_64 ⟨rfl, kw_288, kw_289, kw_290, ⟨_, _, rfl⟩, pd_64⟩, List.forall_mem_cons.mpr ⟨px_k_vir (by decide) mt_65 ⟨rfl, kw_222, kw_223, kw_224, ⟨_, _, rfl⟩, pd_65⟩, List.forall_mem_cons.mpr ⟨px_k_vir (by decide) mt_56 ⟨rfl, kw_311, kw_312, kw_313, ⟨_, _, rfl⟩, pd_56⟩, List.forall_mem_cons.mpr ⟨px_k_get fk_X6_18, List.forall_mem_cons.mpr ⟨px_k_get fk_X6_156, List.forall_mem_cons.mpr ⟨px_k_vir (by decide) mt_68 ⟨rfl, kw_295, kw_296, kw_297, ⟨_, _, rfl⟩, pd_68⟩, fun _ h => nomatch h⟩⟩⟩⟩⟩⟩⟩⟩⟩
set_option maxRecDepth 20000 in
theorem ok_X6_product : px_okMt kt_mt kt_T vwCl kt_X M_X6_product := px_mk (M := M_X6_product) rfl (by decide) ⟨by decide, by decide⟩ (by decide) kw_210 kw_314 trivial de_X6_product (by decide +kernel) lk_X6_product
set_option maxRecDepth 20000 in
theorem de_X6_part : px_dec cX6_part (ls_X6_part ++ ll_X6_part) := by unfold px_dec; decide +kernel
set_option maxRecDepth 20000 in
set_option maxHeartbeats 4000000 in
theorem lk_X6_part : ∀ q ∈ ll_X6_part, px_okR kt_mt kt_T vwCl kt_X yX6_part cX6_part q.1 q.2 := List.forall_mem_cons.mpr ⟨px_k_get fk_X6_54, List.forall_mem_cons.mpr ⟨px_k_get fk_X6_18, List.forall_mem_cons.mpr ⟨px_k_get fk_X6_156, List.forall_mem_cons.mpr ⟨px_k_vir (by decide) mt_59 ⟨rfl, kw_258, kw_259, kw_260, ⟨_, _, rfl⟩, pd_59⟩, List.forall_mem_cons.mpr ⟨px_k_vir (by decide) mt_68 ⟨rfl, kw_295, kw_296, kw_297, ⟨_, _, rfl⟩, pd_68⟩, List.forall_mem_cons.mpr ⟨px_k_get fk_X6_54, List.forall_mem_cons.mpr ⟨px_k_vir (by decide) mt_58 ⟨rfl, kw_315, kw_316, kw_317, ⟨_, _, rfl⟩, pd_58⟩, List.forall_mem_cons.mpr ⟨px_k_vir (by decide) mt_62 ⟨rfl, kw_251, kw_252, kw_253, ⟨_, _, rfl⟩, pd_62⟩, List.forall_mem_cons.mpr ⟨px_k_get fk_X6_18, List.forall_mem_cons.mpr ⟨px_k_get fk_X6_156, List.forall_mem_cons.mpr ⟨px_k_vir (by decide) mt_68 ⟨rfl, kw_295, kw_296, kw_297, ⟨_, _, rfl⟩, pd_68⟩, List.forall_mem_cons.mpr ⟨px_k_vir (by decide) mt_65 ⟨rfl, kw_222, kw_223, kw_224, ⟨_, _, rfl⟩, pd_65⟩, List.forall_mem_cons.mpr ⟨px_k_vir (by decide) mt_61 ⟨rfl, kw_229, kw_230, kw_231, ⟨_, _, rfl⟩, pd_61⟩, List.forall_mem_cons.mpr ⟨px_k_get fk_X6_41, List.forall_mem_cons.mpr ⟨px_k_vir (by decide) mt_51 ⟨rfl, kw_284, kw_285, kw_286, ⟨_, _, rfl⟩, pd_51⟩, List.forall_mem_cons.mpr ⟨px_k_vir (by decide) mt_61 ⟨rfl, kw_229, kw_230, kw_231, ⟨_, _, rfl⟩, pd_61⟩, fun _ h => nomatch h⟩⟩⟩⟩⟩⟩⟩⟩⟩⟩⟩⟩⟩⟩⟩⟩
set_option maxRecDepth 20000 in
theorem ok_X6_part : px_okMt kt_mt kt_T vwCl kt_X M_X6_part := px_mk (M := M_X6_part) rfl (by decide) ⟨by decide, by decide⟩ (by decide) kw_210 kw_318 trivial de_X6_part (by decide +kernel) lk_X6_part
set_option maxRecDepth 20000 in
theorem de_X6_kettleWord : px_dec cX6_kettleWord (ls_X6_kettleWord ++ ll_X6_kettleWord) := by unfold px_dec; decide +kernel
set_option maxRecDepth 20000 in
set_option maxHeartbeats 4000000 in
theorem lk_X6_kettleWord : ∀ q ∈ ll_X6_kettleWord, px_okR kt_mt kt_T vwCl kt_X yX6_kettleWord cX6_kettleWord q.1 q.2 := List.forall_mem_cons.mpr ⟨px_k_ldcs (k := 25) (by decide) (rfl : kt_X.1[25]? = some (_, _, "tin")), List.forall_mem_cons.mpr ⟨px_k_vir (by decide) mt_63 ⟨rfl, kw_239, kw_240, kw_241, ⟨_, _, rfl⟩, pd_63⟩, List.forall_mem_cons.mpr ⟨px_k_ldcs (k := 26) (by decide) (rfl : kt_X.1[26]? = some (_, _, "copper")), List.forall_mem_cons.mpr ⟨px_k_vir (by decide) mt_63 ⟨rfl, kw_239, kw_240, kw_241, ⟨_, _, rfl⟩, pd_63⟩, List.forall_mem_cons.mpr ⟨px_k_ldcs (k := 27) (by decide) (rfl : kt_X.1[27]? = some (_, _, "iron")), List.forall_mem_cons.mpr ⟨px_k_vir (by decide) mt_63 ⟨rfl, kw_239, kw_240, kw_241, ⟨_, _, rfl⟩, pd_63⟩, List.forall_mem_cons.mpr ⟨px_k_ldcs (k := 28) (by decide) (rfl : kt_X.1[28]? = some (_, _, "enamel")), List.forall_mem_cons.mpr ⟨px_k_vir (by decide) mt_63 ⟨rfl, kw_239, kw_240, kw_241, ⟨_, _, rfl⟩, pd_63⟩, fun _ h => nomatch h⟩⟩⟩⟩⟩⟩⟩⟩
set_option maxRecDepth 20000 in
theorem ok_X6_kettleWord : px_okMt kt_mt kt_T vwCl kt_X M_X6_kettleWord := px_mk (M := M_X6_kettleWord) rfl (by decide) ⟨by decide, by decide⟩ (by decide) kw_210 kw_319 trivial de_X6_kettleWord (by decide +kernel) lk_X6_kettleWord
set_option maxRecDepth 20000 in
theorem de_X6_valueWord : px_dec cX6_valueWord (ls_X6_valueWord ++ ll_X6_valueWord) := by unfold px_dec; decide +kernel
set_option maxRecDepth 20000 in
set_option maxHeartbeats 4000000 in
theorem lk_X6_valueWord : ∀ q ∈ ll_X6_valueWord, px_okR kt_mt kt_T vwCl kt_X yX6_valueWord cX6_valueWord q.1 q.2 := List.forall_mem_cons.mpr ⟨px_k_ldcs (k := 29) (by decide) (rfl : kt_X.1[29]? = some (_, _, "note")), List.forall_mem_cons.mpr ⟨px_k_vir (by decide) mt_63 ⟨rfl, kw_239, kw_240, kw_241, ⟨_, _, rfl⟩, pd_63⟩, List.forall_mem_cons.mpr ⟨px_k_ldcs (k := 30) (by decide) (rfl : kt_X.1[30]? = some (_, _, "sung")), List.forall_mem_cons.mpr ⟨px_k_vir (by decide) mt_63 ⟨rfl, kw_239, kw_240, kw_241, ⟨_, _, rfl⟩, pd_63⟩, List.forall_mem_cons.mpr ⟨px_k_ldcs (k := 31) (by decide) (rfl : kt_X.1[31]? = some (_, _, "third")), List.forall_mem_cons.mpr ⟨px_k_vir (by decide) mt_63 ⟨rfl, kw_239, kw_240, kw_241, ⟨_, _, rfl⟩, pd_63⟩, List.forall_mem_cons.mpr ⟨px_k_ldcs (k := 32) (by decide) (rfl : kt_X.1[32]? = some (_, _, "heat")), List.forall_mem_cons.mpr ⟨px_k_vir (by decide) mt_63 ⟨rfl, kw_239, kw_240, kw_241, ⟨_, _, rfl⟩, pd_63⟩, List.forall_mem_cons.mpr ⟨px_k_ldcs (k := 33) (by decide) (rfl : kt_X.1[33]? = some (_, _, "fill")), List.forall_mem_cons.mpr ⟨px_k_vir (by decide) mt_63 ⟨rfl, kw_239, kw_240, kw_241, ⟨_, _, rfl⟩, pd_63⟩, List.forall_mem_cons.mpr ⟨px_k_ldcs (k := 34) (by decide) (rfl : kt_X.1[34]? = some (_, _, "chalk")), List.forall_mem_cons.mpr ⟨px_k_vir (by decide) mt_63 ⟨rfl, kw_239, kw_240, kw_241, ⟨_, _, rfl⟩, pd_63⟩, List.forall_mem_cons.mpr ⟨px_k_ldcs (k := 35) (by decide) (rfl : kt_X.1[35]? = some (_, _, "singers")), List.forall_mem_cons.mpr ⟨px_k_vir (by decide) mt_63 ⟨rfl, kw_239, kw_240, kw_241, ⟨_, _, rfl⟩, pd_63⟩, fun _ h => nomatch h⟩⟩⟩⟩⟩⟩⟩⟩⟩⟩⟩⟩⟩⟩
set_option maxRecDepth 20000 in
theorem ok_X6_valueWord : px_okMt kt_mt kt_T vwCl kt_X M_X6_valueWord := px_mk (M := M_X6_valueWord) rfl (by decide) ⟨by decide, by decide⟩ (by decide) kw_210 kw_320 trivial de_X6_valueWord (by decide +kernel) lk_X6_valueWord
set_option maxRecDepth 20000 in
theorem de_X6_numberOf : px_dec cX6_numberOf (ls_X6_numberOf ++ ll_X6_numberOf) := by unfold px_dec; decide +kernel
set_option maxRecDepth 20000 in
set_option maxHeartbeats 4000000 in
theorem lk_X6_numberOf : ∀ q ∈ ll_X6_numberOf, px_okR kt_mt kt_T vwCl kt_X yX6_numberOf cX6_numberOf q.1 q.2 := List.forall_mem_cons.mpr ⟨px_k_vir (by decide) mt_60 ⟨rfl, kw_274, kw_275, kw_276, ⟨_, _, rfl⟩, pd_60⟩, List.forall_mem_cons.mpr ⟨px_k_get fk_X6_141, List.forall_mem_cons.mpr ⟨px_k_vir (by decide) mt_65 ⟨rfl, kw_222, kw_223, kw_224, ⟨_, _, rfl⟩, pd_65⟩, fun _ h => nomatch h⟩⟩⟩
set_option maxRecDepth 20000 in
theorem ok_X6_numberOf : px_okMt kt_mt kt_T vwCl kt_X M_X6_numberOf := px_mk (M := M_X6_numberOf) rfl (by decide) ⟨by decide, by decide⟩ (by decide) kw_210 kw_321 trivial de_X6_numberOf (by decide +kernel) lk_X6_numberOf
set_option maxRecDepth 20000 in
theorem de_X6_needNumber : px_dec cX6_needNumber (ls_X6_needNumber ++ ll_X6_needNumber) := by unfold px_dec; decide +kernel
set_option maxRecDepth 20000 in
set_option maxHeartbeats 4000000 in
theorem lk_X6_needNumber : ∀ q ∈ ll_X6_needNumber, px_okR kt_mt kt_T vwCl kt_X yX6_needNumber cX6_needNumber q.1 q.2 := List.forall_mem_cons.mpr ⟨px_k_get fk_X6_54, List.forall_mem_cons.mpr ⟨px_k_vir (by decide) mt_62 ⟨rfl, kw_251, kw_252, kw_253, ⟨_, _, rfl⟩, pd_62⟩, List.forall_mem_cons.mpr ⟨px_k_get fk_X6_38, List.forall_mem_cons.mpr ⟨px_k_get fk_X6_206, List.forall_mem_cons.mpr ⟨px_k_get fk_X6_141, List.forall_mem_cons.mpr ⟨px_k_get fk_X6_141, List.forall_mem_cons.mpr ⟨px_k_vir (by decide) mt_62 ⟨rfl, kw_251, kw_252, kw_253, ⟨_, _, rfl⟩, pd_62⟩, List.forall_mem_cons.mpr ⟨px_k_get fk_X6_41, fun _ h => nomatch h⟩⟩⟩⟩⟩⟩⟩⟩
set_option maxRecDepth 20000 in
theorem ok_X6_needNumber : px_okMt kt_mt kt_T vwCl kt_X M_X6_needNumber := px_mk (M := M_X6_needNumber) rfl (by decide) ⟨by decide, by decide⟩ (by decide) kw_210 kw_323 trivial de_X6_needNumber (by decide +kernel) lk_X6_needNumber
set_option maxRecDepth 20000 in
theorem de_X6_expect : px_dec cX6_expect (ls_X6_expect ++ ll_X6_expect) := by unfold px_dec; decide +kernel
set_option maxRecDepth 20000 in
set_option maxHeartbeats 4000000 in
theorem lk_X6_expect : ∀ q ∈ ll_X6_expect, px_okR kt_mt kt_T vwCl kt_X yX6_expect cX6_expect q.1 q.2 := List.forall_mem_cons.mpr ⟨px_k_vir (by decide) mt_64 ⟨rfl, kw_288, kw_289, kw_290, ⟨_, _, rfl⟩, pd_64⟩, List.forall_mem_cons.mpr ⟨px_k_vir (by decide) mt_65 ⟨rfl, kw_222, kw_223, kw_224, ⟨_, _, rfl⟩, pd_65⟩, List.forall_mem_cons.mpr ⟨px_k_vir (by decide) mt_62 ⟨rfl, kw_251, kw_252, kw_253, ⟨_, _, rfl⟩, pd_62⟩, fun _ h => nomatch h⟩⟩⟩
set_option maxRecDepth 20000 in
theorem ok_X6_expect : px_okMt kt_mt kt_T vwCl kt_X M_X6_expect := px_mk (M := M_X6_expect) rfl (by decide) ⟨by decide, by decide⟩ (by decide) kw_210 kw_324 trivial de_X6_expect (by decide +kernel) lk_X6_expect
set_option maxRecDepth 20000 in
theorem de_X6_fail : px_dec cX6_fail (ls_X6_fail ++ ll_X6_fail) := by unfold px_dec; decide +kernel
set_option maxRecDepth 20000 in
set_option maxHeartbeats 4000000 in
theorem lk_X6_fail : ∀ q ∈ ll_X6_fail, px_okR kt_mt kt_T vwCl kt_X yX6_fail cX6_fail q.1 q.2 := List.forall_mem_cons.mpr ⟨px_k_get fk_X6_41, List.forall_mem_cons.mpr ⟨px_k_put pk_X6_41, List.forall_mem_cons.mpr ⟨px_k_get fk_X6_206, List.forall_mem_cons.mpr ⟨px_k_put pk_X6_22, List.forall_mem_cons.mpr ⟨px_k_put pk_X6_54, fun _ h => nomatch h⟩⟩⟩⟩⟩
set_option maxRecDepth 20000 in
theorem ok_X6_fail : px_okMt kt_mt kt_T vwCl kt_X M_X6_fail := px_mk (M := M_X6_fail) rfl (by decide) ⟨by decide, by decide⟩ (by decide) kw_210 kw_325 trivial de_X6_fail (by decide +kernel) lk_X6_fail
set_option maxRecDepth 20000 in
theorem de_X6_isWord : px_dec cX6_isWord (ls_X6_isWord ++ ll_X6_isWord) := by unfold px_dec; decide +kernel
set_option maxRecDepth 20000 in
set_option maxHeartbeats 4000000 in
theorem lk_X6_isWord : ∀ q ∈ ll_X6_isWord, px_okR kt_mt kt_T vwCl kt_X yX6_isWord cX6_isWord q.1 q.2 := List.forall_mem_cons.mpr ⟨px_k_get fk_X6_54, List.forall_mem_cons.mpr ⟨px_k_get fk_X6_38, List.forall_mem_cons.mpr ⟨px_k_get fk_X6_206, List.forall_mem_cons.mpr ⟨px_k_len kt_no1005 kw_326, List.forall_mem_cons.mpr ⟨px_k_len kt_no1005 kw_326, List.forall_mem_cons.mpr ⟨px_k_get fk_X6_206, List.forall_mem_cons.mpr ⟨px_k_get fk_X6_35, List.forall_mem_cons.mpr ⟨px_k_get fk_X6_9, List.forall_mem_cons.mpr ⟨px_k_get fk_X6_206, List.forall_mem_cons.mpr ⟨px_k_chr kt_no1006 kw_327, fun _ h => nomatch h⟩⟩⟩⟩⟩⟩⟩⟩⟩⟩
set_option maxRecDepth 20000 in
theorem ok_X6_isWord : px_okMt kt_mt kt_T vwCl kt_X M_X6_isWord := px_mk (M := M_X6_isWord) rfl (by decide) ⟨by decide, by decide⟩ (by decide) kw_210 kw_328 trivial de_X6_isWord (by decide +kernel) lk_X6_isWord
set_option maxRecDepth 20000 in
theorem de_X6_isSign : px_dec cX6_isSign (ls_X6_isSign ++ ll_X6_isSign) := by unfold px_dec; decide +kernel
set_option maxRecDepth 20000 in
set_option maxHeartbeats 4000000 in
theorem lk_X6_isSign : ∀ q ∈ ll_X6_isSign, px_okR kt_mt kt_T vwCl kt_X yX6_isSign cX6_isSign q.1 q.2 := List.forall_mem_cons.mpr ⟨px_k_get fk_X6_54, List.forall_mem_cons.mpr ⟨px_k_get fk_X6_206, List.forall_mem_cons.mpr ⟨px_k_get fk_X6_35, List.forall_mem_cons.mpr ⟨px_k_get fk_X6_9, List.forall_mem_cons.mpr ⟨px_k_get fk_X6_206, fun _ h => nomatch h⟩⟩⟩⟩⟩
set_option maxRecDepth 20000 in
theorem ok_X6_isSign : px_okMt kt_mt kt_T vwCl kt_X M_X6_isSign := px_mk (M := M_X6_isSign) rfl (by decide) ⟨by decide, by decide⟩ (by decide) kw_210 kw_329 trivial de_X6_isSign (by decide +kernel) lk_X6_isSign
set_option maxRecDepth 20000 in
theorem de_X6_advance : px_dec cX6_advance (ls_X6_advance ++ ll_X6_advance) := by unfold px_dec; decide +kernel
set_option maxRecDepth 20000 in
set_option maxHeartbeats 4000000 in
theorem lk_X6_advance : ∀ q ∈ ll_X6_advance, px_okR kt_mt kt_T vwCl kt_X yX6_advance cX6_advance q.1 q.2 := List.forall_mem_cons.mpr ⟨px_k_get fk_X6_41, List.forall_mem_cons.mpr ⟨px_k_get fk_X6_38, List.forall_mem_cons.mpr ⟨px_k_get fk_X6_35, List.forall_mem_cons.mpr ⟨px_k_get fk_X6_38, List.forall_mem_cons.mpr ⟨px_k_vir (by decide) mt_66 ⟨rfl, kw_330, kw_331, kw_332, ⟨_, _, rfl⟩, pd_66⟩, List.forall_mem_cons.mpr ⟨px_k_get fk_X6_38, List.forall_mem_cons.mpr ⟨px_k_put pk_X6_38, List.forall_mem_cons.mpr ⟨px_k_get fk_X6_38, List.forall_mem_cons.mpr ⟨px_k_put pk_X6_206, List.forall_mem_cons.mpr ⟨px_k_put pk_X6_141, List.forall_mem_cons.mpr ⟨px_k_get fk_X6_38, List.forall_mem_cons.mpr ⟨px_k_vir (by decide) mt_66 ⟨rfl, kw_330, kw_331, kw_332, ⟨_, _, rfl⟩, pd_66⟩, List.forall_mem_cons.mpr ⟨px_k_put pk_X6_54, List.forall_mem_cons.mpr ⟨px_k_get fk_X6_54, List.forall_mem_cons.mpr ⟨px_k_get fk_X6_38, List.forall_mem_cons.mpr ⟨px_k_get fk_X6_35, List.forall_mem_cons.mpr ⟨px_k_get fk_X6_38, List.forall_mem_cons.mpr ⟨px_k_vir (by decide) mt_66 ⟨rfl, kw_330, kw_331, kw_332, ⟨_, _, rfl⟩, pd_66⟩, List.forall_mem_cons.mpr ⟨px_k_get fk_X6_38, List.forall_mem_cons.mpr ⟨px_k_put pk_X6_38, List.forall_mem_cons.mpr ⟨px_k_get fk_X6_54, List.forall_mem_cons.mpr ⟨px_k_get fk_X6_38, List.forall_mem_cons.mpr ⟨px_k_get fk_X6_35, List.forall_mem_cons.mpr ⟨px_k_get fk_X6_38, List.forall_mem_cons.mpr ⟨px_k_vir (by decide) mt_66 ⟨rfl, kw_330, kw_331, kw_332, ⟨_, _, rfl⟩, pd_66⟩, List.forall_mem_cons.mpr ⟨px_k_get fk_X6_38, List.forall_mem_cons.mpr ⟨px_k_get fk_X6_206, List.forall_mem_cons.mpr ⟨px_k_get fk_X6_141, List.forall_mem_cons.mpr ⟨px_k_get fk_X6_9, List.forall_mem_cons.mpr ⟨px_k_get fk_X6_38, List.forall_mem_cons.mpr ⟨px_k_get fk_X6_141, List.forall_mem_cons.mpr ⟨px_k_put pk_X6_141, List.forall_mem_cons.mpr ⟨px_k_get fk_X6_38, List.forall_mem_cons.mpr ⟨px_k_put pk_X6_38, List.forall_mem_cons.mpr ⟨px_k_get fk_X6_54, List.forall_mem_cons.mpr ⟨px_k_get fk_X6_38, List.forall_mem_cons.mpr ⟨px_k_put pk_X6_38, fun _ h => nomatch h⟩⟩⟩⟩⟩⟩⟩⟩⟩⟩⟩⟩⟩⟩⟩⟩⟩⟩⟩⟩⟩⟩⟩⟩⟩⟩⟩⟩⟩⟩⟩⟩⟩⟩⟩⟩⟩
set_option maxRecDepth 20000 in
theorem ok_X6_advance : px_okMt kt_mt kt_T vwCl kt_X M_X6_advance := px_mk (M := M_X6_advance) rfl (by decide) ⟨by decide, by decide⟩ (by decide) kw_210 kw_333 trivial de_X6_advance (by decide +kernel) lk_X6_advance
set_option maxRecDepth 20000 in
theorem de_X6_sortAt : px_dec cX6_sortAt (ls_X6_sortAt ++ ll_X6_sortAt) := by unfold px_dec; decide +kernel
set_option maxRecDepth 20000 in
set_option maxHeartbeats 4000000 in
theorem lk_X6_sortAt : ∀ q ∈ ll_X6_sortAt, px_okR kt_mt kt_T vwCl kt_X yX6_sortAt cX6_sortAt q.1 q.2 := List.forall_mem_cons.mpr ⟨px_k_get fk_X6_35, List.forall_mem_cons.mpr ⟨px_k_get fk_X6_9, fun _ h => nomatch h⟩⟩
set_option maxRecDepth 20000 in
theorem ok_X6_sortAt : px_okMt kt_mt kt_T vwCl kt_X M_X6_sortAt := px_mk (M := M_X6_sortAt) rfl (by decide) ⟨by decide, by decide⟩ (by decide) kw_210 kw_334 trivial de_X6_sortAt (by decide +kernel) lk_X6_sortAt
set_option maxRecDepth 20000 in
theorem de_X7_init : px_dec cX7_init (ls_X7_init ++ ll_X7_init) := by unfold px_dec; decide +kernel
set_option maxRecDepth 20000 in
set_option maxHeartbeats 4000000 in
theorem lk_X7_init : ∀ q ∈ ll_X7_init, px_okR kt_mt kt_T vwCl kt_X yX7_init cX7_init q.1 q.2 := List.forall_mem_cons.mpr ⟨px_k_obj kt_no1000 ⟨kw_335, kw_1, kw_2⟩, List.forall_mem_cons.mpr ⟨px_k_arr (Or.inl ⟨rfl, rfl, kw_3⟩), List.forall_mem_cons.mpr ⟨px_k_put pk_X7_11_X7_init, List.forall_mem_cons.mpr ⟨px_k_arr (Or.inl ⟨rfl, rfl, kw_3⟩), List.forall_mem_cons.mpr ⟨px_k_put pk_X7_15_X7_init, fun _ h => nomatch h⟩⟩⟩⟩⟩
set_option maxRecDepth 20000 in
theorem ok_X7_init : px_okMt kt_mt kt_T vwCl kt_X M_X7_init := px_mk (M := M_X7_init) rfl (by decide) ⟨by decide, by decide⟩ (by decide) kw_338 kw_339 trivial de_X7_init (by decide +kernel) lk_X7_init
set_option maxRecDepth 20000 in
theorem de_X7_add : px_dec cX7_add (ls_X7_add ++ ll_X7_add) := by unfold px_dec; decide +kernel
set_option maxRecDepth 20000 in
set_option maxHeartbeats 4000000 in
theorem lk_X7_add : ∀ q ∈ ll_X7_add, px_okR kt_mt kt_T vwCl kt_X yX7_add cX7_add q.1 q.2 := List.forall_mem_cons.mpr ⟨px_k_get fk_X7_18, List.forall_mem_cons.mpr ⟨px_k_get fk_X7_11, List.forall_mem_cons.mpr ⟨px_k_get fk_X7_18, List.forall_mem_cons.mpr ⟨px_k_get fk_X7_18, List.forall_mem_cons.mpr ⟨px_k_put pk_X7_18, fun _ h => nomatch h⟩⟩⟩⟩⟩
set_option maxRecDepth 20000 in
theorem ok_X7_add : px_okMt kt_mt kt_T vwCl kt_X M_X7_add := px_mk (M := M_X7_add) rfl (by decide) ⟨by decide, by decide⟩ (by decide) kw_338 kw_341 trivial de_X7_add (by decide +kernel) lk_X7_add
set_option maxRecDepth 20000 in
theorem de_X7_take : px_dec cX7_take (ls_X7_take ++ ll_X7_take) := by unfold px_dec; decide +kernel
set_option maxRecDepth 20000 in
set_option maxHeartbeats 4000000 in
theorem lk_X7_take : ∀ q ∈ ll_X7_take, px_okR kt_mt kt_T vwCl kt_X yX7_take cX7_take q.1 q.2 := List.forall_mem_cons.mpr ⟨px_k_get fk_X7_18, List.forall_mem_cons.mpr ⟨px_k_put pk_X7_18, List.forall_mem_cons.mpr ⟨px_k_get fk_X7_11, List.forall_mem_cons.mpr ⟨px_k_get fk_X7_11, List.forall_mem_cons.mpr ⟨px_k_cpy kt_no1004 ⟨kw_342, kw_11, kw_12, kw_13⟩, fun _ h => nomatch h⟩⟩⟩⟩⟩
set_option maxRecDepth 20000 in
theorem ok_X7_take : px_okMt kt_mt kt_T vwCl kt_X M_X7_take := px_mk (M := M_X7_take) rfl (by decide) ⟨by decide, by decide⟩ (by decide) kw_338 kw_343 trivial de_X7_take (by decide +kernel) lk_X7_take
set_option maxRecDepth 20000 in
theorem de_X7_gives : px_dec cX7_gives (ls_X7_gives ++ ll_X7_gives) := by unfold px_dec; decide +kernel
set_option maxRecDepth 20000 in
set_option maxHeartbeats 4000000 in
theorem lk_X7_gives : ∀ q ∈ ll_X7_gives, px_okR kt_mt kt_T vwCl kt_X yX7_gives cX7_gives q.1 q.2 := List.forall_mem_cons.mpr ⟨px_k_get fk_X7_18, List.forall_mem_cons.mpr ⟨px_k_get fk_X7_11, List.forall_mem_cons.mpr ⟨px_k_get fk_X7_15, List.forall_mem_cons.mpr ⟨px_k_get fk_X7_15, List.forall_mem_cons.mpr ⟨px_k_get fk_X7_15, List.forall_mem_cons.mpr ⟨px_k_get fk_X7_15, List.forall_mem_cons.mpr ⟨px_k_get fk_X7_15, List.forall_mem_cons.mpr ⟨px_k_get fk_X7_15, List.forall_mem_cons.mpr ⟨px_k_vir (by decide) mt_71 ⟨rfl, kw_344, kw_345, kw_346, ⟨_, _, rfl⟩, pd_71⟩, List.forall_mem_cons.mpr ⟨px_k_get fk_X7_15, fun _ h => nomatch h⟩⟩⟩⟩⟩⟩⟩⟩⟩⟩
set_option maxRecDepth 20000 in
theorem ok_X7_gives : px_okMt kt_mt kt_T vwCl kt_X M_X7_gives := px_mk (M := M_X7_gives) rfl (by decide) ⟨by decide, by decide⟩ (by decide) kw_338 kw_347 trivial de_X7_gives (by decide +kernel) lk_X7_gives
set_option maxRecDepth 20000 in
theorem de_X7_joined : px_dec cX7_joined (ls_X7_joined ++ ll_X7_joined) := by unfold px_dec; decide +kernel
set_option maxRecDepth 20000 in
set_option maxHeartbeats 4000000 in
theorem lk_X7_joined : ∀ q ∈ ll_X7_joined, px_okR kt_mt kt_T vwCl kt_X yX7_joined cX7_joined q.1 q.2 := fun _ h => nomatch h
set_option maxRecDepth 20000 in
theorem ok_X7_joined : px_okMt kt_mt kt_T vwCl kt_X M_X7_joined := px_mk (M := M_X7_joined) rfl (by decide) ⟨by decide, by decide⟩ (by decide) kw_338 kw_348 trivial de_X7_joined (by decide +kernel) lk_X7_joined
set_option maxRecDepth 20000 in
theorem de_X8_init : px_dec cX8_init (ls_X8_init ++ ll_X8_init) := by unfold px_dec; decide +kernel
set_option maxRecDepth 20000 in
set_option maxHeartbeats 4000000 in
theorem lk_X8_init : ∀ q ∈ ll_X8_init, px_okR kt_mt kt_T vwCl kt_X yX8_init cX8_init q.1 q.2 := List.forall_mem_cons.mpr ⟨px_k_obj kt_no1000 ⟨kw_349, kw_1, kw_2⟩, List.forall_mem_cons.mpr ⟨px_k_arr (Or.inl ⟨rfl, rfl, kw_3⟩), List.forall_mem_cons.mpr ⟨px_k_put pk_X8_11_X8_init, List.forall_mem_cons.mpr ⟨px_k_arr (Or.inl ⟨rfl, rfl, kw_3⟩), List.forall_mem_cons.mpr ⟨px_k_put pk_X8_15_X8_init, List.forall_mem_cons.mpr ⟨px_k_arr (Or.inl ⟨rfl, rfl, kw_3⟩), List.forall_mem_cons.mpr ⟨px_k_put pk_X8_18_X8_init, fun _ h => nomatch h⟩⟩⟩⟩⟩⟩⟩
set_option maxRecDepth 20000 in
theorem ok_X8_init : px_okMt kt_mt kt_T vwCl kt_X M_X8_init := px_mk (M := M_X8_init) rfl (by decide) ⟨by decide, by decide⟩ (by decide) kw_353 kw_354 trivial de_X8_init (by decide +kernel) lk_X8_init
set_option maxRecDepth 20000 in
theorem de_X8_nearestFill : px_dec cX8_nearestFill (ls_X8_nearestFill ++ ll_X8_nearestFill) := by unfold px_dec; decide +kernel
set_option maxRecDepth 20000 in
set_option maxHeartbeats 4000000 in
theorem lk_X8_nearestFill : ∀ q ∈ ll_X8_nearestFill, px_okR kt_mt kt_T vwCl kt_X yX8_nearestFill cX8_nearestFill q.1 q.2 := List.forall_mem_cons.mpr ⟨px_k_ldci kw_355, List.forall_mem_cons.mpr ⟨px_k_get fk_X8_22, List.forall_mem_cons.mpr ⟨px_k_abs kt_no1003 ⟨kw_357, kw_358, kw_131, kw_359⟩, List.forall_mem_cons.mpr ⟨px_k_vir (by decide) mt_28 ⟨rfl, kw_360, kw_147, kw_148, ⟨_, _, rfl⟩, pd_28⟩, fun _ h => nomatch h⟩⟩⟩⟩
set_option maxRecDepth 20000 in
theorem ok_X8_nearestFill : px_okMt kt_mt kt_T vwCl kt_X M_X8_nearestFill := px_mk (M := M_X8_nearestFill) rfl (by decide) ⟨by decide, by decide⟩ (by decide) kw_353 kw_361 trivial de_X8_nearestFill (by decide +kernel) lk_X8_nearestFill
set_option maxRecDepth 20000 in
theorem de_X8_leastCups : px_dec cX8_leastCups (ls_X8_leastCups ++ ll_X8_leastCups) := by unfold px_dec; decide +kernel
set_option maxRecDepth 20000 in
set_option maxHeartbeats 4000000 in
theorem lk_X8_leastCups : ∀ q ∈ ll_X8_leastCups, px_okR kt_mt kt_T vwCl kt_X yX8_leastCups cX8_leastCups q.1 q.2 := List.forall_mem_cons.mpr ⟨px_k_ldci kw_355, List.forall_mem_cons.mpr ⟨px_k_get fk_X8_37, List.forall_mem_cons.mpr ⟨px_k_get fk_X8_11, List.forall_mem_cons.mpr ⟨px_k_get fk_X8_11, List.forall_mem_cons.mpr ⟨px_k_get fk_X8_40, List.forall_mem_cons.mpr ⟨px_k_min kt_no1002 ⟨kw_364, kw_134, kw_131, kw_135⟩, List.forall_mem_cons.mpr ⟨px_k_vir (by decide) mt_75 ⟨rfl, kw_365, kw_366, kw_367, ⟨_, _, rfl⟩, pd_75⟩, List.forall_mem_cons.mpr ⟨px_k_min kt_no1002 ⟨kw_364, kw_134, kw_131, kw_135⟩, List.forall_mem_cons.mpr ⟨px_k_ldci kw_355, fun _ h => nomatch h⟩⟩⟩⟩⟩⟩⟩⟩⟩
set_option maxRecDepth 20000 in
theorem ok_X8_leastCups : px_okMt kt_mt kt_T vwCl kt_X M_X8_leastCups := px_mk (M := M_X8_leastCups) rfl (by decide) ⟨by decide, by decide⟩ (by decide) kw_353 kw_368 trivial de_X8_leastCups (by decide +kernel) lk_X8_leastCups
set_option maxRecDepth 20000 in
theorem de_X8_cupsFor : px_dec cX8_cupsFor (ls_X8_cupsFor ++ ll_X8_cupsFor) := by unfold px_dec; decide +kernel
set_option maxRecDepth 20000 in
set_option maxHeartbeats 4000000 in
theorem lk_X8_cupsFor : ∀ q ∈ ll_X8_cupsFor, px_okR kt_mt kt_T vwCl kt_X yX8_cupsFor cX8_cupsFor q.1 q.2 := List.forall_mem_cons.mpr ⟨px_k_get fk_X8_18, List.forall_mem_cons.mpr ⟨px_k_ldci kw_355, List.forall_mem_cons.mpr ⟨px_k_sta (by decide) mt_236 ⟨kw_369, kw_33, pd_236⟩, List.forall_mem_cons.mpr ⟨px_k_get fk_X8_18, List.forall_mem_cons.mpr ⟨px_k_get fk_X8_57, List.forall_mem_cons.mpr ⟨px_k_get fk_X8_15, List.forall_mem_cons.mpr ⟨px_k_get fk_X8_11, List.forall_mem_cons.mpr ⟨px_k_vir (by decide) mt_76 ⟨rfl, kw_371, kw_372, kw_373, ⟨_, _, rfl⟩, pd_76⟩, List.forall_mem_cons.mpr ⟨px_k_vir (by decide) mt_77 ⟨rfl, kw_374, kw_375, kw_376, ⟨_, _, rfl⟩, pd_77⟩, List.forall_mem_cons.mpr ⟨px_k_get fk_X8_18, fun _ h => nomatch h⟩⟩⟩⟩⟩⟩⟩⟩⟩⟩
set_option maxRecDepth 20000 in
theorem ok_X8_cupsFor : px_okMt kt_mt kt_T vwCl kt_X M_X8_cupsFor := px_mk (M := M_X8_cupsFor) rfl (by decide) ⟨by decide, by decide⟩ (by decide) kw_353 kw_377 trivial de_X8_cupsFor (by decide +kernel) lk_X8_cupsFor
set_option maxRecDepth 20000 in
theorem de_X8_cupsTo : px_dec cX8_cupsTo (ls_X8_cupsTo ++ ll_X8_cupsTo) := by unfold px_dec; decide +kernel
set_option maxRecDepth 20000 in
set_option maxHeartbeats 4000000 in
theorem lk_X8_cupsTo : ∀ q ∈ ll_X8_cupsTo, px_okR kt_mt kt_T vwCl kt_X yX8_cupsTo cX8_cupsTo q.1 q.2 := List.forall_mem_cons.mpr ⟨px_k_vir (by decide) mt_73 ⟨rfl, kw_378, kw_379, kw_380, ⟨_, _, rfl⟩, pd_73⟩, List.forall_mem_cons.mpr ⟨px_k_ldci kw_355, List.forall_mem_cons.mpr ⟨px_k_abs kt_no1003 ⟨kw_357, kw_358, kw_131, kw_359⟩, fun _ h => nomatch h⟩⟩⟩
set_option maxRecDepth 20000 in
theorem ok_X8_cupsTo : px_okMt kt_mt kt_T vwCl kt_X M_X8_cupsTo := px_mk (M := M_X8_cupsTo) rfl (by decide) ⟨by decide, by decide⟩ (by decide) kw_353 kw_381 trivial de_X8_cupsTo (by decide +kernel) lk_X8_cupsTo
set_option maxRecDepth 20000 in
theorem de_X8_join : px_dec cX8_join (ls_X8_join ++ ll_X8_join) := by unfold px_dec; decide +kernel
set_option maxRecDepth 20000 in
set_option maxHeartbeats 4000000 in
theorem lk_X8_join : ∀ q ∈ ll_X8_join, px_okR kt_mt kt_T vwCl kt_X yX8_join cX8_join q.1 q.2 := List.forall_mem_cons.mpr ⟨px_k_get fk_X8_18, List.forall_mem_cons.mpr ⟨px_k_get fk_X8_18, List.forall_mem_cons.mpr ⟨px_k_get fk_X8_18, List.forall_mem_cons.mpr ⟨px_k_get fk_X8_15, List.forall_mem_cons.mpr ⟨px_k_min kt_no1002 ⟨kw_364, kw_134, kw_131, kw_135⟩, fun _ h => nomatch h⟩⟩⟩⟩⟩
set_option maxRecDepth 20000 in
theorem ok_X8_join : px_okMt kt_mt kt_T vwCl kt_X M_X8_join := px_mk (M := M_X8_join) rfl (by decide) ⟨by decide, by decide⟩ (by decide) kw_353 kw_382 trivial de_X8_join (by decide +kernel) lk_X8_join
set_option maxRecDepth 20000 in
theorem de_X9_init : px_dec cX9_init (ls_X9_init ++ ll_X9_init) := by unfold px_dec; decide +kernel
set_option maxRecDepth 20000 in
set_option maxHeartbeats 4000000 in
theorem lk_X9_init : ∀ q ∈ ll_X9_init, px_okR kt_mt kt_T vwCl kt_X yX9_init cX9_init q.1 q.2 := List.forall_mem_cons.mpr ⟨px_k_obj kt_no1000 ⟨kw_383, kw_1, kw_2⟩, List.forall_mem_cons.mpr ⟨px_k_new (C := RX6) (T := TX6) (by decide) rfl kw_384, List.forall_mem_cons.mpr ⟨px_k_spe (by decide) mt_41 ⟨rfl, rfl, rfl, kw_385, pd_41, Or.inr ⟨"KettleChoir", List.mem_of_getElem? (i := 0) rfl⟩⟩, List.forall_mem_cons.mpr ⟨px_k_put pk_X9_12_X9_init, List.forall_mem_cons.mpr ⟨px_k_new (C := RX4) (T := TX4) (by decide) rfl kw_387, List.forall_mem_cons.mpr ⟨px_k_spe (by decide) mt_18 ⟨rfl, rfl, rfl, kw_207, pd_18, Or.inr ⟨"KettleChoir", List.mem_of_getElem? (i := 1) rfl⟩⟩, List.forall_mem_cons.mpr ⟨px_k_put pk_X9_19_X9_init, List.forall_mem_cons.mpr ⟨px_k_arr (Or.inl ⟨rfl, rfl, kw_3⟩), List.forall_mem_cons.mpr ⟨px_k_put pk_X9_23_X9_init, List.forall_mem_cons.mpr ⟨px_k_arr (Or.inl ⟨rfl, rfl, kw_3⟩), List.forall_mem_cons.mpr ⟨px_k_put pk_X9_27_X9_init, List.forall_mem_cons.mpr ⟨px_k_arr (Or.inl ⟨rfl, rfl, kw_3⟩), List.forall_mem_cons.mpr ⟨px_k_put pk_X9_30_X9_init, List.forall_mem_cons.mpr ⟨px_k_new (C := RX0) (T := TX0) (by decide) rfl kw_392, List.forall_mem_cons.mpr ⟨px_k_spe (by decide) mt_0 ⟨rfl, rfl, rfl, kw_68, pd_0, Or.inr ⟨"KettleChoir", List.mem_of_getElem? (i := 2) rfl⟩⟩, List.forall_mem_cons.mpr ⟨px_k_put pk_X9_36_X9_init, List.forall_mem_cons.mpr ⟨px_k_new (C := RX2) (T := TX2) (by decide) rfl kw_394, List.forall_mem_cons.mpr ⟨px_k_spe (by decide) mt_11 ⟨rfl, rfl, rfl, kw_71, pd_11, Or.inr ⟨"KettleChoir", List.mem_of_getElem? (i := 3) rfl⟩⟩, List.forall_mem_cons.mpr ⟨px_k_put pk_X9_43_X9_init, List.forall_mem_cons.mpr ⟨px_k_new (C := RX1) (T := TX1) (by decide) rfl kw_396, List.forall_mem_cons.mpr ⟨px_k_spe (by decide) mt_5 ⟨rfl, rfl, rfl, kw_397, pd_5, Or.inr ⟨"KettleChoir", List.mem_of_getElem? (i := 4) rfl⟩⟩, List.forall_mem_cons.mpr ⟨px_k_put pk_X9_50_X9_init, List.forall_mem_cons.mpr ⟨px_k_new (C := RX5) (T := TX5) (by decide) rfl kw_399, List.forall_mem_cons.mpr ⟨px_k_spe (by decide) mt_34 ⟨rfl, rfl, rfl, kw_400, pd_34, Or.inr ⟨"KettleChoir", List.mem_of_getElem? (i := 5) rfl⟩⟩, List.forall_mem_cons.mpr ⟨px_k_put pk_X9_57_X9_init, List.forall_mem_cons.mpr ⟨px_k_new (C := RX8) (T := TX8) (by decide) rfl kw_402, List.forall_mem_cons.mpr ⟨px_k_spe (by decide) mt_72 ⟨rfl, rfl, rfl, kw_403, pd_72, Or.inr ⟨"KettleChoir", List.mem_of_getElem? (i := 6) rfl⟩⟩, List.forall_mem_cons.mpr ⟨px_k_put pk_X9_64_X9_init, fun _ h => nomatch h⟩⟩⟩⟩⟩⟩⟩⟩⟩⟩⟩⟩⟩⟩⟩⟩⟩⟩⟩⟩⟩⟩⟩⟩⟩⟩⟩⟩
set_option maxRecDepth 20000 in
theorem ok_X9_init : px_okMt kt_mt kt_T vwCl kt_X M_X9_init := px_mk (M := M_X9_init) rfl (by decide) ⟨by decide, by decide⟩ (by decide) kw_405 kw_406 trivial de_X9_init (by decide +kernel) lk_X9_init
set_option maxRecDepth 20000 in
theorem de_X9_feed : px_dec cX9_feed (ls_X9_feed ++ ll_X9_feed) := by unfold px_dec; decide +kernel
set_option maxRecDepth 20000 in
set_option maxHeartbeats 4000000 in
theorem lk_X9_feed : ∀ q ∈ ll_X9_feed, px_okR kt_mt kt_T vwCl kt_X yX9_feed cX9_feed q.1 q.2 := List.forall_mem_cons.mpr ⟨px_k_get fk_X9_12, List.forall_mem_cons.mpr ⟨px_k_get fk_X9_68, List.forall_mem_cons.mpr ⟨px_k_get fk_X9_12, List.forall_mem_cons.mpr ⟨px_k_vir (by decide) mt_42 ⟨rfl, kw_408, kw_409, kw_410, ⟨_, _, rfl⟩, pd_42⟩, List.forall_mem_cons.mpr ⟨px_k_get fk_X9_12, List.forall_mem_cons.mpr ⟨px_k_vir (by decide) mt_42 ⟨rfl, kw_408, kw_409, kw_410, ⟨_, _, rfl⟩, pd_42⟩, List.forall_mem_cons.mpr ⟨px_k_get fk_X9_12, List.forall_mem_cons.mpr ⟨px_k_vir (by decide) mt_42 ⟨rfl, kw_408, kw_409, kw_410, ⟨_, _, rfl⟩, pd_42⟩, List.forall_mem_cons.mpr ⟨px_k_get fk_X9_12, List.forall_mem_cons.mpr ⟨px_k_vir (by decide) mt_42 ⟨rfl, kw_408, kw_409, kw_410, ⟨_, _, rfl⟩, pd_42⟩, List.forall_mem_cons.mpr ⟨px_k_get fk_X9_12, List.forall_mem_cons.mpr ⟨px_k_vir (by decide) mt_42 ⟨rfl, kw_408, kw_409, kw_410, ⟨_, _, rfl⟩, pd_42⟩, List.forall_mem_cons.mpr ⟨px_k_get fk_X9_12, List.forall_mem_cons.mpr ⟨px_k_get fk_X9_68, fun _ h => nomatch h⟩⟩⟩⟩⟩⟩⟩⟩⟩⟩⟩⟩⟩⟩
set_option maxRecDepth 20000 in
theorem ok_X9_feed : px_okMt kt_mt kt_T vwCl kt_X M_X9_feed := px_mk (M := M_X9_feed) rfl (by decide) ⟨by decide, by decide⟩ (by decide) kw_405 kw_411 trivial de_X9_feed (by decide +kernel) lk_X9_feed
