/-! ===== printed by wip/whole/gen.py: the methods of the tables are right ===== -/
set_option maxRecDepth 20000 in
theorem de_X10_scrape : px_dec cX10_scrape (ls_X10_scrape ++ ll_X10_scrape) := by unfold px_dec; decide +kernel
set_option maxRecDepth 20000 in
set_option maxHeartbeats 4000000 in
theorem lk_X10_scrape : ∀ q ∈ ll_X10_scrape, px_okR kt_mt kt_T vwCl kt_X yX10_scrape cX10_scrape q.1 q.2 := List.forall_mem_cons.mpr ⟨px_k_put pk_X10_149, List.forall_mem_cons.mpr ⟨px_k_vir (by decide) mt_138 ⟨rfl, kw_856, kw_857, kw_858, ⟨_, _, rfl⟩, pd_138⟩, List.forall_mem_cons.mpr ⟨px_k_vir (by decide) mt_134 ⟨rfl, kw_768, kw_769, kw_770, ⟨_, _, rfl⟩, pd_134⟩, List.forall_mem_cons.mpr ⟨px_k_get fk_X10_81, List.forall_mem_cons.mpr ⟨px_k_get fk_X10_88, List.forall_mem_cons.mpr ⟨px_k_vir (by decide) mt_194 ⟨rfl, kw_879, kw_880, kw_881, ⟨_, _, rfl⟩, pd_194⟩, List.forall_mem_cons.mpr ⟨px_k_vir (by decide) mt_195 ⟨rfl, kw_882, kw_883, kw_884, ⟨_, _, rfl⟩, pd_195⟩, List.forall_mem_cons.mpr ⟨px_k_get fk_X10_88, List.forall_mem_cons.mpr ⟨px_k_get fk_X10_88, fun _ h => nomatch h⟩⟩⟩⟩⟩⟩⟩⟩⟩
set_option maxRecDepth 20000 in
theorem ok_X10_scrape : px_okMt kt_mt kt_T vwCl kt_X M_X10_scrape := px_mk (M := M_X10_scrape) rfl (by decide) ⟨by decide, by decide⟩ (by decide) kw_651 kw_895 trivial de_X10_scrape (by decide +kernel) lk_X10_scrape
set_option maxRecDepth 20000 in
theorem de_X10_undo : px_dec cX10_undo (ls_X10_undo ++ ll_X10_undo) := by unfold px_dec; decide +kernel
set_option maxRecDepth 20000 in
set_option maxHeartbeats 4000000 in
theorem lk_X10_undo : ∀ q ∈ ll_X10_undo, px_okR kt_mt kt_T vwCl kt_X yX10_undo cX10_undo q.1 q.2 := List.forall_mem_cons.mpr ⟨px_k_put pk_X10_149, List.forall_mem_cons.mpr ⟨px_k_get fk_X10_301, List.forall_mem_cons.mpr ⟨px_k_get fk_X10_301, List.forall_mem_cons.mpr ⟨px_k_put pk_X10_301, List.forall_mem_cons.mpr ⟨px_k_get fk_X10_97, List.forall_mem_cons.mpr ⟨px_k_get fk_X10_301, List.forall_mem_cons.mpr ⟨px_k_vir (by decide) mt_171 ⟨rfl, kw_896, kw_897, kw_898, ⟨_, _, rfl⟩, pd_171⟩, List.forall_mem_cons.mpr ⟨px_k_get fk_X10_301, fun _ h => nomatch h⟩⟩⟩⟩⟩⟩⟩⟩
set_option maxRecDepth 20000 in
theorem ok_X10_undo : px_okMt kt_mt kt_T vwCl kt_X M_X10_undo := px_mk (M := M_X10_undo) rfl (by decide) ⟨by decide, by decide⟩ (by decide) kw_651 kw_899 trivial de_X10_undo (by decide +kernel) lk_X10_undo
set_option maxRecDepth 20000 in
theorem de_X10_then : px_dec cX10_then (ls_X10_then ++ ll_X10_then) := by unfold px_dec; decide +kernel
set_option maxRecDepth 20000 in
set_option maxHeartbeats 4000000 in
theorem lk_X10_then : ∀ q ∈ ll_X10_then, px_okR kt_mt kt_T vwCl kt_X yX10_then cX10_then q.1 q.2 := List.forall_mem_cons.mpr ⟨px_k_put pk_X10_149, List.forall_mem_cons.mpr ⟨px_k_vir (by decide) mt_138 ⟨rfl, kw_856, kw_857, kw_858, ⟨_, _, rfl⟩, pd_138⟩, List.forall_mem_cons.mpr ⟨px_k_vir (by decide) mt_134 ⟨rfl, kw_768, kw_769, kw_770, ⟨_, _, rfl⟩, pd_134⟩, List.forall_mem_cons.mpr ⟨px_k_ldc2 kw_900, List.forall_mem_cons.mpr ⟨px_k_sta (by decide) mt_136 ⟨kw_659, kw_660, pd_136⟩, List.forall_mem_cons.mpr ⟨px_k_vir (by decide) mt_134 ⟨rfl, kw_768, kw_769, kw_770, ⟨_, _, rfl⟩, pd_134⟩, List.forall_mem_cons.mpr ⟨px_k_get fk_X10_106, List.forall_mem_cons.mpr ⟨px_k_vir (by decide) mt_170 ⟨rfl, kw_874, kw_875, kw_876, ⟨_, _, rfl⟩, pd_170⟩, List.forall_mem_cons.mpr ⟨px_k_vir (by decide) mt_185 ⟨rfl, kw_885, kw_886, kw_887, ⟨_, _, rfl⟩, pd_185⟩, List.forall_mem_cons.mpr ⟨px_k_get fk_X10_92, List.forall_mem_cons.mpr ⟨px_k_get fk_X10_106, List.forall_mem_cons.mpr ⟨px_k_vir (by decide) mt_171 ⟨rfl, kw_896, kw_897, kw_898, ⟨_, _, rfl⟩, pd_171⟩, fun _ h => nomatch h⟩⟩⟩⟩⟩⟩⟩⟩⟩⟩⟩⟩
set_option maxRecDepth 20000 in
theorem ok_X10_then : px_okMt kt_mt kt_T vwCl kt_X M_X10_then := px_mk (M := M_X10_then) rfl (by decide) ⟨by decide, by decide⟩ (by decide) kw_651 kw_901 trivial de_X10_then (by decide +kernel) lk_X10_then
set_option maxRecDepth 20000 in
theorem de_X10_sung : px_dec cX10_sung (ls_X10_sung ++ ll_X10_sung) := by unfold px_dec; decide +kernel
set_option maxRecDepth 20000 in
set_option maxHeartbeats 4000000 in
theorem lk_X10_sung : ∀ q ∈ ll_X10_sung, px_okR kt_mt kt_T vwCl kt_X yX10_sung cX10_sung q.1 q.2 := List.forall_mem_cons.mpr ⟨px_k_put pk_X10_149, List.forall_mem_cons.mpr ⟨px_k_vir (by decide) mt_138 ⟨rfl, kw_856, kw_857, kw_858, ⟨_, _, rfl⟩, pd_138⟩, List.forall_mem_cons.mpr ⟨px_k_vir (by decide) mt_134 ⟨rfl, kw_768, kw_769, kw_770, ⟨_, _, rfl⟩, pd_134⟩, List.forall_mem_cons.mpr ⟨px_k_get fk_X10_106, List.forall_mem_cons.mpr ⟨px_k_vir (by decide) mt_170 ⟨rfl, kw_874, kw_875, kw_876, ⟨_, _, rfl⟩, pd_170⟩, List.forall_mem_cons.mpr ⟨px_k_vir (by decide) mt_185 ⟨rfl, kw_885, kw_886, kw_887, ⟨_, _, rfl⟩, pd_185⟩, List.forall_mem_cons.mpr ⟨px_k_get fk_X10_92, List.forall_mem_cons.mpr ⟨px_k_get fk_X10_106, List.forall_mem_cons.mpr ⟨px_k_vir (by decide) mt_171 ⟨rfl, kw_896, kw_897, kw_898, ⟨_, _, rfl⟩, pd_171⟩, fun _ h => nomatch h⟩⟩⟩⟩⟩⟩⟩⟩⟩
set_option maxRecDepth 20000 in
theorem ok_X10_sung : px_okMt kt_mt kt_T vwCl kt_X M_X10_sung := px_mk (M := M_X10_sung) rfl (by decide) ⟨by decide, by decide⟩ (by decide) kw_651 kw_902 trivial de_X10_sung (by decide +kernel) lk_X10_sung
set_option maxRecDepth 20000 in
theorem de_X10_doneIn : px_dec cX10_doneIn (ls_X10_doneIn ++ ll_X10_doneIn) := by unfold px_dec; decide +kernel
set_option maxRecDepth 20000 in
set_option maxHeartbeats 4000000 in
theorem lk_X10_doneIn : ∀ q ∈ ll_X10_doneIn, px_okR kt_mt kt_T vwCl kt_X yX10_doneIn cX10_doneIn q.1 q.2 := List.forall_mem_cons.mpr ⟨px_k_vir (by decide) mt_185 ⟨rfl, kw_885, kw_886, kw_887, ⟨_, _, rfl⟩, pd_185⟩, List.forall_mem_cons.mpr ⟨px_k_get fk_X10_94, fun _ h => nomatch h⟩⟩
set_option maxRecDepth 20000 in
theorem ok_X10_doneIn : px_okMt kt_mt kt_T vwCl kt_X M_X10_doneIn := px_mk (M := M_X10_doneIn) rfl (by decide) ⟨by decide, by decide⟩ (by decide) kw_651 kw_903 trivial de_X10_doneIn (by decide +kernel) lk_X10_doneIn
set_option maxRecDepth 20000 in
theorem de_X10_done : px_dec cX10_done (ls_X10_done ++ ll_X10_done) := by unfold px_dec; decide +kernel
set_option maxRecDepth 20000 in
set_option maxHeartbeats 4000000 in
theorem lk_X10_done : ∀ q ∈ ll_X10_done, px_okR kt_mt kt_T vwCl kt_X yX10_done cX10_done q.1 q.2 := List.forall_mem_cons.mpr ⟨px_k_put pk_X10_149, List.forall_mem_cons.mpr ⟨px_k_vir (by decide) mt_140 ⟨rfl, kw_868, kw_869, kw_870, ⟨_, _, rfl⟩, pd_140⟩, List.forall_mem_cons.mpr ⟨px_k_vir (by decide) mt_134 ⟨rfl, kw_768, kw_769, kw_770, ⟨_, _, rfl⟩, pd_134⟩, List.forall_mem_cons.mpr ⟨px_k_get fk_X10_94, List.forall_mem_cons.mpr ⟨px_k_get fk_X10_106, List.forall_mem_cons.mpr ⟨px_k_vir (by decide) mt_170 ⟨rfl, kw_874, kw_875, kw_876, ⟨_, _, rfl⟩, pd_170⟩, List.forall_mem_cons.mpr ⟨px_k_vir (by decide) mt_204 ⟨rfl, kw_904, kw_905, kw_906, ⟨_, _, rfl⟩, pd_204⟩, List.forall_mem_cons.mpr ⟨px_k_get fk_X10_106, List.forall_mem_cons.mpr ⟨px_k_vir (by decide) mt_171 ⟨rfl, kw_896, kw_897, kw_898, ⟨_, _, rfl⟩, pd_171⟩, fun _ h => nomatch h⟩⟩⟩⟩⟩⟩⟩⟩⟩
set_option maxRecDepth 20000 in
theorem ok_X10_done : px_okMt kt_mt kt_T vwCl kt_X M_X10_done := px_mk (M := M_X10_done) rfl (by decide) ⟨by decide, by decide⟩ (by decide) kw_651 kw_907 trivial de_X10_done (by decide +kernel) lk_X10_done
set_option maxRecDepth 20000 in
theorem de_X10_fugue : px_dec cX10_fugue (ls_X10_fugue ++ ll_X10_fugue) := by unfold px_dec; decide +kernel
set_option maxRecDepth 20000 in
set_option maxHeartbeats 4000000 in
theorem lk_X10_fugue : ∀ q ∈ ll_X10_fugue, px_okR kt_mt kt_T vwCl kt_X yX10_fugue cX10_fugue q.1 q.2 := List.forall_mem_cons.mpr ⟨px_k_put pk_X10_149, List.forall_mem_cons.mpr ⟨px_k_ldc2 kw_908, List.forall_mem_cons.mpr ⟨px_k_sta (by decide) mt_136 ⟨kw_659, kw_660, pd_136⟩, List.forall_mem_cons.mpr ⟨px_k_vir (by decide) mt_134 ⟨rfl, kw_768, kw_769, kw_770, ⟨_, _, rfl⟩, pd_134⟩, List.forall_mem_cons.mpr ⟨px_k_get fk_X10_106, List.forall_mem_cons.mpr ⟨px_k_vir (by decide) mt_170 ⟨rfl, kw_874, kw_875, kw_876, ⟨_, _, rfl⟩, pd_170⟩, List.forall_mem_cons.mpr ⟨px_k_vir (by decide) mt_185 ⟨rfl, kw_885, kw_886, kw_887, ⟨_, _, rfl⟩, pd_185⟩, List.forall_mem_cons.mpr ⟨px_k_vir (by decide) mt_182 ⟨rfl, kw_813, kw_814, kw_815, ⟨_, _, rfl⟩, pd_182⟩, List.forall_mem_cons.mpr ⟨px_k_sta (by decide) mt_183 ⟨kw_816, kw_817, pd_183⟩, List.forall_mem_cons.mpr ⟨px_k_get fk_X10_106, List.forall_mem_cons.mpr ⟨px_k_vir (by decide) mt_171 ⟨rfl, kw_896, kw_897, kw_898, ⟨_, _, rfl⟩, pd_171⟩, fun _ h => nomatch h⟩⟩⟩⟩⟩⟩⟩⟩⟩⟩⟩
set_option maxRecDepth 20000 in
theorem ok_X10_fugue : px_okMt kt_mt kt_T vwCl kt_X M_X10_fugue := px_mk (M := M_X10_fugue) rfl (by decide) ⟨by decide, by decide⟩ (by decide) kw_651 kw_909 trivial de_X10_fugue (by decide +kernel) lk_X10_fugue
set_option maxRecDepth 20000 in
theorem de_X10_quiet : px_dec cX10_quiet (ls_X10_quiet ++ ll_X10_quiet) := by unfold px_dec; decide +kernel
set_option maxRecDepth 20000 in
set_option maxHeartbeats 4000000 in
theorem lk_X10_quiet : ∀ q ∈ ll_X10_quiet, px_okR kt_mt kt_T vwCl kt_X yX10_quiet cX10_quiet q.1 q.2 := List.forall_mem_cons.mpr ⟨px_k_put pk_X10_149, List.forall_mem_cons.mpr ⟨px_k_get fk_X10_106, List.forall_mem_cons.mpr ⟨px_k_vir (by decide) mt_170 ⟨rfl, kw_874, kw_875, kw_876, ⟨_, _, rfl⟩, pd_170⟩, List.forall_mem_cons.mpr ⟨px_k_vir (by decide) mt_182 ⟨rfl, kw_813, kw_814, kw_815, ⟨_, _, rfl⟩, pd_182⟩, List.forall_mem_cons.mpr ⟨px_k_vir (by decide) mt_185 ⟨rfl, kw_885, kw_886, kw_887, ⟨_, _, rfl⟩, pd_185⟩, List.forall_mem_cons.mpr ⟨px_k_vir (by decide) mt_182 ⟨rfl, kw_813, kw_814, kw_815, ⟨_, _, rfl⟩, pd_182⟩, List.forall_mem_cons.mpr ⟨px_k_get fk_X10_106, List.forall_mem_cons.mpr ⟨px_k_vir (by decide) mt_171 ⟨rfl, kw_896, kw_897, kw_898, ⟨_, _, rfl⟩, pd_171⟩, fun _ h => nomatch h⟩⟩⟩⟩⟩⟩⟩⟩
set_option maxRecDepth 20000 in
theorem ok_X10_quiet : px_okMt kt_mt kt_T vwCl kt_X M_X10_quiet := px_mk (M := M_X10_quiet) rfl (by decide) ⟨by decide, by decide⟩ (by decide) kw_651 kw_910 trivial de_X10_quiet (by decide +kernel) lk_X10_quiet
set_option maxRecDepth 20000 in
theorem de_X10_loudest : px_dec cX10_loudest (ls_X10_loudest ++ ll_X10_loudest) := by unfold px_dec; decide +kernel
set_option maxRecDepth 20000 in
set_option maxHeartbeats 4000000 in
theorem lk_X10_loudest : ∀ q ∈ ll_X10_loudest, px_okR kt_mt kt_T vwCl kt_X yX10_loudest cX10_loudest q.1 q.2 := List.forall_mem_cons.mpr ⟨px_k_put pk_X10_149, List.forall_mem_cons.mpr ⟨px_k_vir (by decide) mt_134 ⟨rfl, kw_768, kw_769, kw_770, ⟨_, _, rfl⟩, pd_134⟩, List.forall_mem_cons.mpr ⟨px_k_get fk_X10_106, List.forall_mem_cons.mpr ⟨px_k_vir (by decide) mt_170 ⟨rfl, kw_874, kw_875, kw_876, ⟨_, _, rfl⟩, pd_170⟩, List.forall_mem_cons.mpr ⟨px_k_vir (by decide) mt_185 ⟨rfl, kw_885, kw_886, kw_887, ⟨_, _, rfl⟩, pd_185⟩, List.forall_mem_cons.mpr ⟨px_k_vir (by decide) mt_182 ⟨rfl, kw_813, kw_814, kw_815, ⟨_, _, rfl⟩, pd_182⟩, List.forall_mem_cons.mpr ⟨px_k_sta (by decide) mt_183 ⟨kw_816, kw_817, pd_183⟩, List.forall_mem_cons.mpr ⟨px_k_vir (by decide) mt_182 ⟨rfl, kw_813, kw_814, kw_815, ⟨_, _, rfl⟩, pd_182⟩, List.forall_mem_cons.mpr ⟨px_k_sta (by decide) mt_183 ⟨kw_816, kw_817, pd_183⟩, List.forall_mem_cons.mpr ⟨px_k_get fk_X10_106, List.forall_mem_cons.mpr ⟨px_k_vir (by decide) mt_171 ⟨rfl, kw_896, kw_897, kw_898, ⟨_, _, rfl⟩, pd_171⟩, fun _ h => nomatch h⟩⟩⟩⟩⟩⟩⟩⟩⟩⟩⟩
set_option maxRecDepth 20000 in
theorem ok_X10_loudest : px_okMt kt_mt kt_T vwCl kt_X M_X10_loudest := px_mk (M := M_X10_loudest) rfl (by decide) ⟨by decide, by decide⟩ (by decide) kw_651 kw_911 trivial de_X10_loudest (by decide +kernel) lk_X10_loudest
set_option maxRecDepth 20000 in
theorem de_X10_dry : px_dec cX10_dry (ls_X10_dry ++ ll_X10_dry) := by unfold px_dec; decide +kernel
set_option maxRecDepth 20000 in
set_option maxHeartbeats 4000000 in
theorem lk_X10_dry : ∀ q ∈ ll_X10_dry, px_okR kt_mt kt_T vwCl kt_X yX10_dry cX10_dry q.1 q.2 := List.forall_mem_cons.mpr ⟨px_k_put pk_X10_149, List.forall_mem_cons.mpr ⟨px_k_vir (by decide) mt_138 ⟨rfl, kw_856, kw_857, kw_858, ⟨_, _, rfl⟩, pd_138⟩, List.forall_mem_cons.mpr ⟨px_k_vir (by decide) mt_134 ⟨rfl, kw_768, kw_769, kw_770, ⟨_, _, rfl⟩, pd_134⟩, List.forall_mem_cons.mpr ⟨px_k_get fk_X10_106, List.forall_mem_cons.mpr ⟨px_k_vir (by decide) mt_170 ⟨rfl, kw_874, kw_875, kw_876, ⟨_, _, rfl⟩, pd_170⟩, List.forall_mem_cons.mpr ⟨px_k_get fk_X10_86, List.forall_mem_cons.mpr ⟨px_k_vir (by decide) mt_185 ⟨rfl, kw_885, kw_886, kw_887, ⟨_, _, rfl⟩, pd_185⟩, List.forall_mem_cons.mpr ⟨px_k_get fk_X10_86, List.forall_mem_cons.mpr ⟨px_k_get fk_X10_106, List.forall_mem_cons.mpr ⟨px_k_vir (by decide) mt_171 ⟨rfl, kw_896, kw_897, kw_898, ⟨_, _, rfl⟩, pd_171⟩, fun _ h => nomatch h⟩⟩⟩⟩⟩⟩⟩⟩⟩⟩
set_option maxRecDepth 20000 in
theorem ok_X10_dry : px_okMt kt_mt kt_T vwCl kt_X M_X10_dry := px_mk (M := M_X10_dry) rfl (by decide) ⟨by decide, by decide⟩ (by decide) kw_651 kw_912 trivial de_X10_dry (by decide +kernel) lk_X10_dry
set_option maxRecDepth 20000 in
theorem de_X10_goPlaces : px_dec cX10_goPlaces (ls_X10_goPlaces ++ ll_X10_goPlaces) := by unfold px_dec; decide +kernel
set_option maxRecDepth 20000 in
set_option maxHeartbeats 4000000 in
theorem lk_X10_goPlaces : ∀ q ∈ ll_X10_goPlaces, px_okR kt_mt kt_T vwCl kt_X yX10_goPlaces cX10_goPlaces q.1 q.2 := List.forall_mem_cons.mpr ⟨px_k_get fk_X10_40, List.forall_mem_cons.mpr ⟨px_k_get fk_X10_115, List.forall_mem_cons.mpr ⟨px_k_vir (by decide) mt_170 ⟨rfl, kw_874, kw_875, kw_876, ⟨_, _, rfl⟩, pd_170⟩, List.forall_mem_cons.mpr ⟨px_k_get fk_X10_40, List.forall_mem_cons.mpr ⟨px_k_get fk_X10_81, List.forall_mem_cons.mpr ⟨px_k_get fk_X10_109, List.forall_mem_cons.mpr ⟨px_k_get fk_X10_81, List.forall_mem_cons.mpr ⟨px_k_get fk_X10_109, List.forall_mem_cons.mpr ⟨px_k_get fk_X10_408, List.forall_mem_cons.mpr ⟨px_k_min kt_no1002 ⟨kw_683, kw_134, kw_131, kw_135⟩, List.forall_mem_cons.mpr ⟨px_k_vir (by decide) mt_204 ⟨rfl, kw_904, kw_905, kw_906, ⟨_, _, rfl⟩, pd_204⟩, List.forall_mem_cons.mpr ⟨px_k_get fk_X10_115, List.forall_mem_cons.mpr ⟨px_k_vir (by decide) mt_171 ⟨rfl, kw_896, kw_897, kw_898, ⟨_, _, rfl⟩, pd_171⟩, List.forall_mem_cons.mpr ⟨px_k_put pk_X10_408, List.forall_mem_cons.mpr ⟨px_k_get fk_X10_112, List.forall_mem_cons.mpr ⟨px_k_get fk_X10_109, List.forall_mem_cons.mpr ⟨px_k_get fk_X10_40, List.forall_mem_cons.mpr ⟨px_k_get fk_X10_109, List.forall_mem_cons.mpr ⟨px_k_get fk_X10_109, List.forall_mem_cons.mpr ⟨px_k_vir (by decide) mt_210 ⟨rfl, kw_914, kw_915, kw_916, ⟨_, _, rfl⟩, pd_210⟩, fun _ h => nomatch h⟩⟩⟩⟩⟩⟩⟩⟩⟩⟩⟩⟩⟩⟩⟩⟩⟩⟩⟩⟩
set_option maxRecDepth 20000 in
theorem ok_X10_goPlaces : px_okMt kt_mt kt_T vwCl kt_X M_X10_goPlaces := px_mk (M := M_X10_goPlaces) rfl (by decide) ⟨by decide, by decide⟩ (by decide) kw_651 kw_917 trivial de_X10_goPlaces (by decide +kernel) lk_X10_goPlaces
set_option maxRecDepth 20000 in
theorem de_X10_soonest : px_dec cX10_soonest (ls_X10_soonest ++ ll_X10_soonest) := by unfold px_dec; decide +kernel
set_option maxRecDepth 20000 in
set_option maxHeartbeats 4000000 in
theorem lk_X10_soonest : ∀ q ∈ ll_X10_soonest, px_okR kt_mt kt_T vwCl kt_X yX10_soonest cX10_soonest q.1 q.2 := List.forall_mem_cons.mpr ⟨px_k_put pk_X10_149, List.forall_mem_cons.mpr ⟨px_k_vir (by decide) mt_140 ⟨rfl, kw_868, kw_869, kw_870, ⟨_, _, rfl⟩, pd_140⟩, List.forall_mem_cons.mpr ⟨px_k_ldc2 kw_918, List.forall_mem_cons.mpr ⟨px_k_get fk_X10_40, List.forall_mem_cons.mpr ⟨px_k_sta (by decide) mt_136 ⟨kw_659, kw_660, pd_136⟩, List.forall_mem_cons.mpr ⟨px_k_vir (by decide) mt_134 ⟨rfl, kw_768, kw_769, kw_770, ⟨_, _, rfl⟩, pd_134⟩, List.forall_mem_cons.mpr ⟨px_k_ldci kw_682, List.forall_mem_cons.mpr ⟨px_k_put pk_X10_408, List.forall_mem_cons.mpr ⟨px_k_get fk_X10_112, List.forall_mem_cons.mpr ⟨px_k_get fk_X10_94, List.forall_mem_cons.mpr ⟨px_k_vir (by decide) mt_210 ⟨rfl, kw_914, kw_915, kw_916, ⟨_, _, rfl⟩, pd_210⟩, List.forall_mem_cons.mpr ⟨px_k_get fk_X10_112, List.forall_mem_cons.mpr ⟨px_k_get fk_X10_408, List.forall_mem_cons.mpr ⟨px_k_ldci kw_682, List.forall_mem_cons.mpr ⟨px_k_get fk_X10_408, fun _ h => nomatch h⟩⟩⟩⟩⟩⟩⟩⟩⟩⟩⟩⟩⟩⟩⟩
set_option maxRecDepth 20000 in
theorem ok_X10_soonest : px_okMt kt_mt kt_T vwCl kt_X M_X10_soonest := px_mk (M := M_X10_soonest) rfl (by decide) ⟨by decide, by decide⟩ (by decide) kw_651 kw_919 trivial de_X10_soonest (by decide +kernel) lk_X10_soonest
set_option maxRecDepth 20000 in
theorem de_X10_tunedTo : px_dec cX10_tunedTo (ls_X10_tunedTo ++ ll_X10_tunedTo) := by unfold px_dec; decide +kernel
set_option maxRecDepth 20000 in
set_option maxHeartbeats 4000000 in
theorem lk_X10_tunedTo : ∀ q ∈ ll_X10_tunedTo, px_okR kt_mt kt_T vwCl kt_X yX10_tunedTo cX10_tunedTo q.1 q.2 := List.forall_mem_cons.mpr ⟨px_k_get fk_X10_50, List.forall_mem_cons.mpr ⟨px_k_get fk_X10_88, List.forall_mem_cons.mpr ⟨px_k_vir (by decide) mt_176 ⟨rfl, kw_801, kw_802, kw_803, ⟨_, _, rfl⟩, pd_176⟩, List.forall_mem_cons.mpr ⟨px_k_get fk_X10_86, List.forall_mem_cons.mpr ⟨px_k_abs kt_no1003 ⟨kw_920, kw_358, kw_131, kw_359⟩, List.forall_mem_cons.mpr ⟨px_k_get fk_X10_86, List.forall_mem_cons.mpr ⟨px_k_abs kt_no1003 ⟨kw_920, kw_358, kw_131, kw_359⟩, fun _ h => nomatch h⟩⟩⟩⟩⟩⟩⟩
set_option maxRecDepth 20000 in
theorem ok_X10_tunedTo : px_okMt kt_mt kt_T vwCl kt_X M_X10_tunedTo := px_mk (M := M_X10_tunedTo) rfl (by decide) ⟨by decide, by decide⟩ (by decide) kw_651 kw_921 trivial de_X10_tunedTo (by decide +kernel) lk_X10_tunedTo
set_option maxRecDepth 20000 in
theorem de_X10_tuned : px_dec cX10_tuned (ls_X10_tuned ++ ll_X10_tuned) := by unfold px_dec; decide +kernel
set_option maxRecDepth 20000 in
set_option maxHeartbeats 4000000 in
theorem lk_X10_tuned : ∀ q ∈ ll_X10_tuned, px_okR kt_mt kt_T vwCl kt_X yX10_tuned cX10_tuned q.1 q.2 := List.forall_mem_cons.mpr ⟨px_k_put pk_X10_149, List.forall_mem_cons.mpr ⟨px_k_vir (by decide) mt_138 ⟨rfl, kw_856, kw_857, kw_858, ⟨_, _, rfl⟩, pd_138⟩, List.forall_mem_cons.mpr ⟨px_k_vir (by decide) mt_134 ⟨rfl, kw_768, kw_769, kw_770, ⟨_, _, rfl⟩, pd_134⟩, List.forall_mem_cons.mpr ⟨px_k_ldc2 kw_922, List.forall_mem_cons.mpr ⟨px_k_sta (by decide) mt_136 ⟨kw_659, kw_660, pd_136⟩, List.forall_mem_cons.mpr ⟨px_k_vir (by decide) mt_212 ⟨rfl, kw_923, kw_924, kw_925, ⟨_, _, rfl⟩, pd_212⟩, List.forall_mem_cons.mpr ⟨px_k_vir (by decide) mt_134 ⟨rfl, kw_768, kw_769, kw_770, ⟨_, _, rfl⟩, pd_134⟩, fun _ h => nomatch h⟩⟩⟩⟩⟩⟩⟩
set_option maxRecDepth 20000 in
theorem ok_X10_tuned : px_okMt kt_mt kt_T vwCl kt_X M_X10_tuned := px_mk (M := M_X10_tuned) rfl (by decide) ⟨by decide, by decide⟩ (by decide) kw_651 kw_926 trivial de_X10_tuned (by decide +kernel) lk_X10_tuned
set_option maxRecDepth 20000 in
theorem de_X10_chordFrom : px_dec cX10_chordFrom (ls_X10_chordFrom ++ ll_X10_chordFrom) := by unfold px_dec; decide +kernel
set_option maxRecDepth 20000 in
set_option maxHeartbeats 4000000 in
theorem lk_X10_chordFrom : ∀ q ∈ ll_X10_chordFrom, px_okR kt_mt kt_T vwCl kt_X yX10_chordFrom cX10_chordFrom q.1 q.2 := List.forall_mem_cons.mpr ⟨px_k_get fk_X10_62, List.forall_mem_cons.mpr ⟨px_k_get fk_X10_65, List.forall_mem_cons.mpr ⟨px_k_ldci kw_682, List.forall_mem_cons.mpr ⟨px_k_get fk_X10_40, List.forall_mem_cons.mpr ⟨px_k_sta (by decide) mt_137 ⟨kw_927, kw_928, pd_137⟩, List.forall_mem_cons.mpr ⟨px_k_vir (by decide) mt_212 ⟨rfl, kw_923, kw_924, kw_925, ⟨_, _, rfl⟩, pd_212⟩, List.forall_mem_cons.mpr ⟨px_k_get fk_X10_86, List.forall_mem_cons.mpr ⟨px_k_abs kt_no1003 ⟨kw_920, kw_358, kw_131, kw_359⟩, List.forall_mem_cons.mpr ⟨px_k_vir (by decide) mt_214 ⟨rfl, kw_929, kw_930, kw_931, ⟨_, _, rfl⟩, pd_214⟩, List.forall_mem_cons.mpr ⟨px_k_min kt_no1002 ⟨kw_683, kw_134, kw_131, kw_135⟩, fun _ h => nomatch h⟩⟩⟩⟩⟩⟩⟩⟩⟩⟩
set_option maxRecDepth 20000 in
theorem ok_X10_chordFrom : px_okMt kt_mt kt_T vwCl kt_X M_X10_chordFrom := px_mk (M := M_X10_chordFrom) rfl (by decide) ⟨by decide, by decide⟩ (by decide) kw_651 kw_932 trivial de_X10_chordFrom (by decide +kernel) lk_X10_chordFrom
set_option maxRecDepth 20000 in
theorem de_X10_chord : px_dec cX10_chord (ls_X10_chord ++ ll_X10_chord) := by unfold px_dec; decide +kernel
set_option maxRecDepth 20000 in
set_option maxHeartbeats 4000000 in
theorem lk_X10_chord : ∀ q ∈ ll_X10_chord, px_okR kt_mt kt_T vwCl kt_X yX10_chord cX10_chord q.1 q.2 := List.forall_mem_cons.mpr ⟨px_k_put pk_X10_149, List.forall_mem_cons.mpr ⟨px_k_vir (by decide) mt_140 ⟨rfl, kw_868, kw_869, kw_870, ⟨_, _, rfl⟩, pd_140⟩, List.forall_mem_cons.mpr ⟨px_k_vir (by decide) mt_134 ⟨rfl, kw_768, kw_769, kw_770, ⟨_, _, rfl⟩, pd_134⟩, List.forall_mem_cons.mpr ⟨px_k_ldci kw_682, List.forall_mem_cons.mpr ⟨px_k_vir (by decide) mt_214 ⟨rfl, kw_929, kw_930, kw_931, ⟨_, _, rfl⟩, pd_214⟩, List.forall_mem_cons.mpr ⟨px_k_min kt_no1002 ⟨kw_683, kw_134, kw_131, kw_135⟩, List.forall_mem_cons.mpr ⟨px_k_ldci kw_682, fun _ h => nomatch h⟩⟩⟩⟩⟩⟩⟩
set_option maxRecDepth 20000 in
theorem ok_X10_chord : px_okMt kt_mt kt_T vwCl kt_X M_X10_chord := px_mk (M := M_X10_chord) rfl (by decide) ⟨by decide, by decide⟩ (by decide) kw_651 kw_933 trivial de_X10_chord (by decide +kernel) lk_X10_chord
set_option maxRecDepth 20000 in
theorem de_X10_burner : px_dec cX10_burner (ls_X10_burner ++ ll_X10_burner) := by unfold px_dec; decide +kernel
set_option maxRecDepth 20000 in
set_option maxHeartbeats 4000000 in
theorem lk_X10_burner : ∀ q ∈ ll_X10_burner, px_okR kt_mt kt_T vwCl kt_X yX10_burner cX10_burner q.1 q.2 := List.forall_mem_cons.mpr ⟨px_k_put pk_X10_149, List.forall_mem_cons.mpr ⟨px_k_vir (by decide) mt_138 ⟨rfl, kw_856, kw_857, kw_858, ⟨_, _, rfl⟩, pd_138⟩, List.forall_mem_cons.mpr ⟨px_k_vir (by decide) mt_134 ⟨rfl, kw_768, kw_769, kw_770, ⟨_, _, rfl⟩, pd_134⟩, List.forall_mem_cons.mpr ⟨px_k_ldc2 kw_900, List.forall_mem_cons.mpr ⟨px_k_sta (by decide) mt_136 ⟨kw_659, kw_660, pd_136⟩, List.forall_mem_cons.mpr ⟨px_k_vir (by decide) mt_134 ⟨rfl, kw_768, kw_769, kw_770, ⟨_, _, rfl⟩, pd_134⟩, List.forall_mem_cons.mpr ⟨px_k_get fk_X10_84, List.forall_mem_cons.mpr ⟨px_k_vir (by decide) mt_177 ⟨rfl, kw_798, kw_799, kw_800, ⟨_, _, rfl⟩, pd_177⟩, List.forall_mem_cons.mpr ⟨px_k_get fk_X10_84, List.forall_mem_cons.mpr ⟨px_k_get fk_X10_84, List.forall_mem_cons.mpr ⟨px_k_vir (by decide) mt_174 ⟨rfl, kw_825, kw_826, kw_827, ⟨_, _, rfl⟩, pd_174⟩, List.forall_mem_cons.mpr ⟨px_k_get fk_X10_84, List.forall_mem_cons.mpr ⟨px_k_get fk_X10_84, fun _ h => nomatch h⟩⟩⟩⟩⟩⟩⟩⟩⟩⟩⟩⟩⟩
set_option maxRecDepth 20000 in
theorem ok_X10_burner : px_okMt kt_mt kt_T vwCl kt_X M_X10_burner := px_mk (M := M_X10_burner) rfl (by decide) ⟨by decide, by decide⟩ (by decide) kw_651 kw_934 trivial de_X10_burner (by decide +kernel) lk_X10_burner
set_option maxRecDepth 20000 in
theorem de_X10_together : px_dec cX10_together (ls_X10_together ++ ll_X10_together) := by unfold px_dec; decide +kernel
set_option maxRecDepth 20000 in
set_option maxHeartbeats 4000000 in
theorem lk_X10_together : ∀ q ∈ ll_X10_together, px_okR kt_mt kt_T vwCl kt_X yX10_together cX10_together q.1 q.2 := List.forall_mem_cons.mpr ⟨px_k_put pk_X10_149, List.forall_mem_cons.mpr ⟨px_k_vir (by decide) mt_138 ⟨rfl, kw_856, kw_857, kw_858, ⟨_, _, rfl⟩, pd_138⟩, List.forall_mem_cons.mpr ⟨px_k_vir (by decide) mt_138 ⟨rfl, kw_856, kw_857, kw_858, ⟨_, _, rfl⟩, pd_138⟩, List.forall_mem_cons.mpr ⟨px_k_vir (by decide) mt_134 ⟨rfl, kw_768, kw_769, kw_770, ⟨_, _, rfl⟩, pd_134⟩, List.forall_mem_cons.mpr ⟨px_k_ldc2 kw_935, List.forall_mem_cons.mpr ⟨px_k_sta (by decide) mt_136 ⟨kw_659, kw_660, pd_136⟩, List.forall_mem_cons.mpr ⟨px_k_ldc2 kw_936, List.forall_mem_cons.mpr ⟨px_k_sta (by decide) mt_136 ⟨kw_659, kw_660, pd_136⟩, List.forall_mem_cons.mpr ⟨px_k_vir (by decide) mt_134 ⟨rfl, kw_768, kw_769, kw_770, ⟨_, _, rfl⟩, pd_134⟩, List.forall_mem_cons.mpr ⟨px_k_get fk_X10_106, List.forall_mem_cons.mpr ⟨px_k_vir (by decide) mt_170 ⟨rfl, kw_874, kw_875, kw_876, ⟨_, _, rfl⟩, pd_170⟩, List.forall_mem_cons.mpr ⟨px_k_get fk_X10_84, List.forall_mem_cons.mpr ⟨px_k_vir (by decide) mt_174 ⟨rfl, kw_825, kw_826, kw_827, ⟨_, _, rfl⟩, pd_174⟩, List.forall_mem_cons.mpr ⟨px_k_get fk_X10_84, List.forall_mem_cons.mpr ⟨px_k_vir (by decide) mt_174 ⟨rfl, kw_825, kw_826, kw_827, ⟨_, _, rfl⟩, pd_174⟩, List.forall_mem_cons.mpr ⟨px_k_vir (by decide) mt_178 ⟨rfl, kw_828, kw_829, kw_830, ⟨_, _, rfl⟩, pd_178⟩, List.forall_mem_cons.mpr ⟨px_k_vir (by decide) mt_178 ⟨rfl, kw_828, kw_829, kw_830, ⟨_, _, rfl⟩, pd_178⟩, List.forall_mem_cons.mpr ⟨px_k_get fk_X10_92, List.forall_mem_cons.mpr ⟨px_k_get fk_X10_92, List.forall_mem_cons.mpr ⟨px_k_get fk_X10_92, List.forall_mem_cons.mpr ⟨px_k_get fk_X10_92, List.forall_mem_cons.mpr ⟨px_k_abs kt_no1003 ⟨kw_920, kw_358, kw_131, kw_359⟩, List.forall_mem_cons.mpr ⟨px_k_vir (by decide) mt_179 ⟨rfl, kw_834, kw_835, kw_836, ⟨_, _, rfl⟩, pd_179⟩, List.forall_mem_cons.mpr ⟨px_k_vir (by decide) mt_179 ⟨rfl, kw_834, kw_835, kw_836, ⟨_, _, rfl⟩, pd_179⟩, List.forall_mem_cons.mpr ⟨px_k_get fk_X10_298, List.forall_mem_cons.mpr ⟨px_k_put pk_X10_298, List.forall_mem_cons.mpr ⟨px_k_get fk_X10_106, List.forall_mem_cons.mpr ⟨px_k_vir (by decide) mt_171 ⟨rfl, kw_896, kw_897, kw_898, ⟨_, _, rfl⟩, pd_171⟩, fun _ h => nomatch h⟩⟩⟩⟩⟩⟩⟩⟩⟩⟩⟩⟩⟩⟩⟩⟩⟩⟩⟩⟩⟩⟩⟩⟩⟩⟩⟩⟩
set_option maxRecDepth 20000 in
theorem ok_X10_together : px_okMt kt_mt kt_T vwCl kt_X M_X10_together := px_mk (M := M_X10_together) rfl (by decide) ⟨by decide, by decide⟩ (by decide) kw_651 kw_937 trivial de_X10_together (by decide +kernel) lk_X10_together
set_option maxRecDepth 20000 in
theorem de_X10_hear : px_dec cX10_hear (ls_X10_hear ++ ll_X10_hear) := by unfold px_dec; decide +kernel
set_option maxRecDepth 20000 in
set_option maxHeartbeats 4000000 in
theorem lk_X10_hear : ∀ q ∈ ll_X10_hear, px_okR kt_mt kt_T vwCl kt_X yX10_hear cX10_hear q.1 q.2 := List.forall_mem_cons.mpr ⟨px_k_put pk_X10_149, List.forall_mem_cons.mpr ⟨px_k_get fk_X10_304, List.forall_mem_cons.mpr ⟨px_k_ldc2 kw_922, List.forall_mem_cons.mpr ⟨px_k_sta (by decide) mt_136 ⟨kw_659, kw_660, pd_136⟩, List.forall_mem_cons.mpr ⟨px_k_ldc2 kw_918, List.forall_mem_cons.mpr ⟨px_k_ldc2 kw_922, List.forall_mem_cons.mpr ⟨px_k_sta (by decide) mt_136 ⟨kw_659, kw_660, pd_136⟩, List.forall_mem_cons.mpr ⟨px_k_vir (by decide) mt_194 ⟨rfl, kw_879, kw_880, kw_881, ⟨_, _, rfl⟩, pd_194⟩, List.forall_mem_cons.mpr ⟨px_k_get fk_X10_118, List.forall_mem_cons.mpr ⟨px_k_get fk_X10_304, List.forall_mem_cons.mpr ⟨px_k_get fk_X10_121, List.forall_mem_cons.mpr ⟨px_k_get fk_X10_304, List.forall_mem_cons.mpr ⟨px_k_get fk_X10_304, List.forall_mem_cons.mpr ⟨px_k_put pk_X10_304, List.forall_mem_cons.mpr ⟨px_k_get fk_X10_304, fun _ h => nomatch h⟩⟩⟩⟩⟩⟩⟩⟩⟩⟩⟩⟩⟩⟩⟩
set_option maxRecDepth 20000 in
theorem ok_X10_hear : px_okMt kt_mt kt_T vwCl kt_X M_X10_hear := px_mk (M := M_X10_hear) rfl (by decide) ⟨by decide, by decide⟩ (by decide) kw_651 kw_938 trivial de_X10_hear (by decide +kernel) lk_X10_hear
set_option maxRecDepth 20000 in
theorem de_X10_isAsHeard : px_dec cX10_isAsHeard (ls_X10_isAsHeard ++ ll_X10_isAsHeard) := by unfold px_dec; decide +kernel
set_option maxRecDepth 20000 in
set_option maxHeartbeats 4000000 in
theorem lk_X10_isAsHeard : ∀ q ∈ ll_X10_isAsHeard, px_okR kt_mt kt_T vwCl kt_X yX10_isAsHeard cX10_isAsHeard q.1 q.2 := List.forall_mem_cons.mpr ⟨px_k_get fk_X10_124, List.forall_mem_cons.mpr ⟨px_k_vir (by decide) mt_170 ⟨rfl, kw_874, kw_875, kw_876, ⟨_, _, rfl⟩, pd_170⟩, List.forall_mem_cons.mpr ⟨px_k_get fk_X10_304, List.forall_mem_cons.mpr ⟨px_k_get fk_X10_118, List.forall_mem_cons.mpr ⟨px_k_max kt_no1001 ⟨kw_793, kw_130, kw_131, kw_132⟩, List.forall_mem_cons.mpr ⟨px_k_vir (by decide) mt_185 ⟨rfl, kw_885, kw_886, kw_887, ⟨_, _, rfl⟩, pd_185⟩, List.forall_mem_cons.mpr ⟨px_k_get fk_X10_304, List.forall_mem_cons.mpr ⟨px_k_get fk_X10_118, List.forall_mem_cons.mpr ⟨px_k_get fk_X10_121, List.forall_mem_cons.mpr ⟨px_k_vir (by decide) mt_182 ⟨rfl, kw_813, kw_814, kw_815, ⟨_, _, rfl⟩, pd_182⟩, List.forall_mem_cons.mpr ⟨px_k_get fk_X10_121, List.forall_mem_cons.mpr ⟨px_k_vir (by decide) mt_180 ⟨rfl, kw_807, kw_808, kw_809, ⟨_, _, rfl⟩, pd_180⟩, List.forall_mem_cons.mpr ⟨px_k_get fk_X10_124, List.forall_mem_cons.mpr ⟨px_k_vir (by decide) mt_171 ⟨rfl, kw_896, kw_897, kw_898, ⟨_, _, rfl⟩, pd_171⟩, fun _ h => nomatch h⟩⟩⟩⟩⟩⟩⟩⟩⟩⟩⟩⟩⟩⟩
set_option maxRecDepth 20000 in
theorem ok_X10_isAsHeard : px_okMt kt_mt kt_T vwCl kt_X M_X10_isAsHeard := px_mk (M := M_X10_isAsHeard) rfl (by decide) ⟨by decide, by decide⟩ (by decide) kw_651 kw_939 trivial de_X10_isAsHeard (by decide +kernel) lk_X10_isAsHeard
set_option maxRecDepth 20000 in
theorem de_X10_tellFits : px_dec cX10_tellFits (ls_X10_tellFits ++ ll_X10_tellFits) := by unfold px_dec; decide +kernel
set_option maxRecDepth 20000 in
set_option maxHeartbeats 4000000 in
theorem lk_X10_tellFits : ∀ q ∈ ll_X10_tellFits, px_okR kt_mt kt_T vwCl kt_X yX10_tellFits cX10_tellFits q.1 q.2 := List.forall_mem_cons.mpr ⟨px_k_put pk_X10_436, List.forall_mem_cons.mpr ⟨px_k_get fk_X10_40, List.forall_mem_cons.mpr ⟨px_k_get fk_X10_88, List.forall_mem_cons.mpr ⟨px_k_get fk_X10_88, List.forall_mem_cons.mpr ⟨px_k_vir (by decide) mt_219 ⟨rfl, kw_941, kw_942, kw_943, ⟨_, _, rfl⟩, pd_219⟩, List.forall_mem_cons.mpr ⟨px_k_get fk_X10_127, List.forall_mem_cons.mpr ⟨px_k_get fk_X10_436, List.forall_mem_cons.mpr ⟨px_k_get fk_X10_436, List.forall_mem_cons.mpr ⟨px_k_put pk_X10_436, List.forall_mem_cons.mpr ⟨px_k_get fk_X10_88, fun _ h => nomatch h⟩⟩⟩⟩⟩⟩⟩⟩⟩⟩
set_option maxRecDepth 20000 in
theorem ok_X10_tellFits : px_okMt kt_mt kt_T vwCl kt_X M_X10_tellFits := px_mk (M := M_X10_tellFits) rfl (by decide) ⟨by decide, by decide⟩ (by decide) kw_651 kw_944 trivial de_X10_tellFits (by decide +kernel) lk_X10_tellFits
set_option maxRecDepth 20000 in
theorem de_X10_chalk : px_dec cX10_chalk (ls_X10_chalk ++ ll_X10_chalk) := by unfold px_dec; decide +kernel
set_option maxRecDepth 20000 in
set_option maxHeartbeats 4000000 in
theorem lk_X10_chalk : ∀ q ∈ ll_X10_chalk, px_okR kt_mt kt_T vwCl kt_X yX10_chalk cX10_chalk q.1 q.2 := List.forall_mem_cons.mpr ⟨px_k_put pk_X10_149, List.forall_mem_cons.mpr ⟨px_k_ldc2 kw_945, List.forall_mem_cons.mpr ⟨px_k_sta (by decide) mt_136 ⟨kw_659, kw_660, pd_136⟩, List.forall_mem_cons.mpr ⟨px_k_vir (by decide) mt_134 ⟨rfl, kw_768, kw_769, kw_770, ⟨_, _, rfl⟩, pd_134⟩, List.forall_mem_cons.mpr ⟨px_k_vir (by decide) mt_219 ⟨rfl, kw_941, kw_942, kw_943, ⟨_, _, rfl⟩, pd_219⟩, List.forall_mem_cons.mpr ⟨px_k_vir (by decide) mt_220 ⟨rfl, kw_946, kw_947, kw_948, ⟨_, _, rfl⟩, pd_220⟩, List.forall_mem_cons.mpr ⟨px_k_get fk_X10_436, List.forall_mem_cons.mpr ⟨px_k_get fk_X10_436, List.forall_mem_cons.mpr ⟨px_k_get fk_X10_127, fun _ h => nomatch h⟩⟩⟩⟩⟩⟩⟩⟩⟩
set_option maxRecDepth 20000 in
theorem ok_X10_chalk : px_okMt kt_mt kt_T vwCl kt_X M_X10_chalk := px_mk (M := M_X10_chalk) rfl (by decide) ⟨by decide, by decide⟩ (by decide) kw_651 kw_949 trivial de_X10_chalk (by decide +kernel) lk_X10_chalk
set_option maxRecDepth 20000 in
theorem de_X10_choir : px_dec cX10_choir (ls_X10_choir ++ ll_X10_choir) := by unfold px_dec; decide +kernel
set_option maxRecDepth 20000 in
set_option maxHeartbeats 4000000 in
theorem lk_X10_choir : ∀ q ∈ ll_X10_choir, px_okR kt_mt kt_T vwCl kt_X yX10_choir cX10_choir q.1 q.2 := List.forall_mem_cons.mpr ⟨px_k_get fk_X10_40, List.forall_mem_cons.mpr ⟨px_k_get fk_X10_92, List.forall_mem_cons.mpr ⟨px_k_get fk_X10_92, fun _ h => nomatch h⟩⟩⟩
set_option maxRecDepth 20000 in
theorem ok_X10_choir : px_okMt kt_mt kt_T vwCl kt_X M_X10_choir := px_mk (M := M_X10_choir) rfl (by decide) ⟨by decide, by decide⟩ (by decide) kw_651 kw_950 trivial de_X10_choir (by decide +kernel) lk_X10_choir
set_option maxRecDepth 20000 in
theorem de_X10_tellChoirs : px_dec cX10_tellChoirs (ls_X10_tellChoirs ++ ll_X10_tellChoirs) := by unfold px_dec; decide +kernel
set_option maxRecDepth 20000 in
set_option maxHeartbeats 4000000 in
theorem lk_X10_tellChoirs : ∀ q ∈ ll_X10_tellChoirs, px_okR kt_mt kt_T vwCl kt_X yX10_tellChoirs cX10_tellChoirs q.1 q.2 := List.forall_mem_cons.mpr ⟨px_k_get fk_X10_436, List.forall_mem_cons.mpr ⟨px_k_get fk_X10_106, List.forall_mem_cons.mpr ⟨px_k_vir (by decide) mt_170 ⟨rfl, kw_874, kw_875, kw_876, ⟨_, _, rfl⟩, pd_170⟩, List.forall_mem_cons.mpr ⟨px_k_get fk_X10_88, List.forall_mem_cons.mpr ⟨px_k_get fk_X10_127, List.forall_mem_cons.mpr ⟨px_k_get fk_X10_127, List.forall_mem_cons.mpr ⟨px_k_vir (by decide) mt_185 ⟨rfl, kw_885, kw_886, kw_887, ⟨_, _, rfl⟩, pd_185⟩, List.forall_mem_cons.mpr ⟨px_k_get fk_X10_130, List.forall_mem_cons.mpr ⟨px_k_vir (by decide) mt_222 ⟨rfl, kw_951, kw_952, kw_953, ⟨_, _, rfl⟩, pd_222⟩, List.forall_mem_cons.mpr ⟨px_k_get fk_X10_106, List.forall_mem_cons.mpr ⟨px_k_vir (by decide) mt_171 ⟨rfl, kw_896, kw_897, kw_898, ⟨_, _, rfl⟩, pd_171⟩, fun _ h => nomatch h⟩⟩⟩⟩⟩⟩⟩⟩⟩⟩⟩
set_option maxRecDepth 20000 in
theorem ok_X10_tellChoirs : px_okMt kt_mt kt_T vwCl kt_X M_X10_tellChoirs := px_mk (M := M_X10_tellChoirs) rfl (by decide) ⟨by decide, by decide⟩ (by decide) kw_651 kw_954 trivial de_X10_tellChoirs (by decide +kernel) lk_X10_tellChoirs
set_option maxRecDepth 20000 in
theorem de_X10_unlike : px_dec cX10_unlike (ls_X10_unlike ++ ll_X10_unlike) := by unfold px_dec; decide +kernel
set_option maxRecDepth 20000 in
set_option maxHeartbeats 4000000 in
theorem lk_X10_unlike : ∀ q ∈ ll_X10_unlike, px_okR kt_mt kt_T vwCl kt_X yX10_unlike cX10_unlike q.1 q.2 := List.forall_mem_cons.mpr ⟨px_k_get fk_X10_436, List.forall_mem_cons.mpr ⟨px_k_get fk_X10_130, List.forall_mem_cons.mpr ⟨px_k_get fk_X10_130, fun _ h => nomatch h⟩⟩⟩
set_option maxRecDepth 20000 in
theorem ok_X10_unlike : px_okMt kt_mt kt_T vwCl kt_X M_X10_unlike := px_mk (M := M_X10_unlike) rfl (by decide) ⟨by decide, by decide⟩ (by decide) kw_651 kw_955 trivial de_X10_unlike (by decide +kernel) lk_X10_unlike
set_option maxRecDepth 20000 in
theorem de_X10_listen : px_dec cX10_listen (ls_X10_listen ++ ll_X10_listen) := by unfold px_dec; decide +kernel
set_option maxRecDepth 20000 in
set_option maxHeartbeats 4000000 in
theorem lk_X10_listen : ∀ q ∈ ll_X10_listen, px_okR kt_mt kt_T vwCl kt_X yX10_listen cX10_listen q.1 q.2 := List.forall_mem_cons.mpr ⟨px_k_put pk_X10_149, List.forall_mem_cons.mpr ⟨px_k_vir (by decide) mt_134 ⟨rfl, kw_768, kw_769, kw_770, ⟨_, _, rfl⟩, pd_134⟩, List.forall_mem_cons.mpr ⟨px_k_vir (by decide) mt_220 ⟨rfl, kw_946, kw_947, kw_948, ⟨_, _, rfl⟩, pd_220⟩, List.forall_mem_cons.mpr ⟨px_k_vir (by decide) mt_223 ⟨rfl, kw_956, kw_957, kw_958, ⟨_, _, rfl⟩, pd_223⟩, List.forall_mem_cons.mpr ⟨px_k_vir (by decide) mt_224 ⟨rfl, kw_959, kw_960, kw_961, ⟨_, _, rfl⟩, pd_224⟩, fun _ h => nomatch h⟩⟩⟩⟩⟩
set_option maxRecDepth 20000 in
theorem ok_X10_listen : px_okMt kt_mt kt_T vwCl kt_X M_X10_listen := px_mk (M := M_X10_listen) rfl (by decide) ⟨by decide, by decide⟩ (by decide) kw_651 kw_962 trivial de_X10_listen (by decide +kernel) lk_X10_listen
set_option maxRecDepth 20000 in
theorem de_X10_forget : px_dec cX10_forget (ls_X10_forget ++ ll_X10_forget) := by unfold px_dec; decide +kernel
set_option maxRecDepth 20000 in
set_option maxHeartbeats 4000000 in
theorem lk_X10_forget : ∀ q ∈ ll_X10_forget, px_okR kt_mt kt_T vwCl kt_X yX10_forget cX10_forget q.1 q.2 := List.forall_mem_cons.mpr ⟨px_k_put pk_X10_149, List.forall_mem_cons.mpr ⟨px_k_put pk_X10_304, fun _ h => nomatch h⟩⟩
set_option maxRecDepth 20000 in
theorem ok_X10_forget : px_okMt kt_mt kt_T vwCl kt_X M_X10_forget := px_mk (M := M_X10_forget) rfl (by decide) ⟨by decide, by decide⟩ (by decide) kw_651 kw_963 trivial de_X10_forget (by decide +kernel) lk_X10_forget
set_option maxRecDepth 20000 in
theorem de_X10_gain : px_dec cX10_gain (ls_X10_gain ++ ll_X10_gain) := by unfold px_dec; decide +kernel
set_option maxRecDepth 20000 in
set_option maxHeartbeats 4000000 in
theorem lk_X10_gain : ∀ q ∈ ll_X10_gain, px_okR kt_mt kt_T vwCl kt_X yX10_gain cX10_gain q.1 q.2 := List.forall_mem_cons.mpr ⟨px_k_sta (by decide) mt_137 ⟨kw_927, kw_928, pd_137⟩, List.forall_mem_cons.mpr ⟨px_k_get fk_X10_40, List.forall_mem_cons.mpr ⟨px_k_sta (by decide) mt_137 ⟨kw_927, kw_928, pd_137⟩, List.forall_mem_cons.mpr ⟨px_k_get fk_X10_92, List.forall_mem_cons.mpr ⟨px_k_get fk_X10_92, List.forall_mem_cons.mpr ⟨px_k_abs kt_no1003 ⟨kw_920, kw_358, kw_131, kw_359⟩, List.forall_mem_cons.mpr ⟨px_k_ldc2 kw_945, List.forall_mem_cons.mpr ⟨px_k_sta (by decide) mt_136 ⟨kw_659, kw_660, pd_136⟩, fun _ h => nomatch h⟩⟩⟩⟩⟩⟩⟩⟩
set_option maxRecDepth 20000 in
theorem ok_X10_gain : px_okMt kt_mt kt_T vwCl kt_X M_X10_gain := px_mk (M := M_X10_gain) rfl (by decide) ⟨by decide, by decide⟩ (by decide) kw_651 kw_964 trivial de_X10_gain (by decide +kernel) lk_X10_gain
set_option maxRecDepth 20000 in
theorem de_X10_game : px_dec cX10_game (ls_X10_game ++ ll_X10_game) := by unfold px_dec; decide +kernel
set_option maxRecDepth 20000 in
set_option maxHeartbeats 4000000 in
theorem lk_X10_game : ∀ q ∈ ll_X10_game, px_okR kt_mt kt_T vwCl kt_X yX10_game cX10_game q.1 q.2 := List.forall_mem_cons.mpr ⟨px_k_put pk_X10_149, List.forall_mem_cons.mpr ⟨px_k_vir (by decide) mt_138 ⟨rfl, kw_856, kw_857, kw_858, ⟨_, _, rfl⟩, pd_138⟩, List.forall_mem_cons.mpr ⟨px_k_vir (by decide) mt_138 ⟨rfl, kw_856, kw_857, kw_858, ⟨_, _, rfl⟩, pd_138⟩, List.forall_mem_cons.mpr ⟨px_k_vir (by decide) mt_134 ⟨rfl, kw_768, kw_769, kw_770, ⟨_, _, rfl⟩, pd_134⟩, List.forall_mem_cons.mpr ⟨px_k_vir (by decide) mt_134 ⟨rfl, kw_768, kw_769, kw_770, ⟨_, _, rfl⟩, pd_134⟩, List.forall_mem_cons.mpr ⟨px_k_vir (by decide) mt_182 ⟨rfl, kw_813, kw_814, kw_815, ⟨_, _, rfl⟩, pd_182⟩, List.forall_mem_cons.mpr ⟨px_k_sta (by decide) mt_137 ⟨kw_927, kw_928, pd_137⟩, List.forall_mem_cons.mpr ⟨px_k_sta (by decide) mt_137 ⟨kw_927, kw_928, pd_137⟩, List.forall_mem_cons.mpr ⟨px_k_vir (by decide) mt_227 ⟨rfl, kw_965, kw_966, kw_967, ⟨_, _, rfl⟩, pd_227⟩, List.forall_mem_cons.mpr ⟨px_k_vir (by decide) mt_227 ⟨rfl, kw_965, kw_966, kw_967, ⟨_, _, rfl⟩, pd_227⟩, List.forall_mem_cons.mpr ⟨px_k_vir (by decide) mt_227 ⟨rfl, kw_965, kw_966, kw_967, ⟨_, _, rfl⟩, pd_227⟩, List.forall_mem_cons.mpr ⟨px_k_vir (by decide) mt_227 ⟨rfl, kw_965, kw_966, kw_967, ⟨_, _, rfl⟩, pd_227⟩, fun _ h => nomatch h⟩⟩⟩⟩⟩⟩⟩⟩⟩⟩⟩⟩
set_option maxRecDepth 20000 in
theorem ok_X10_game : px_okMt kt_mt kt_T vwCl kt_X M_X10_game := px_mk (M := M_X10_game) rfl (by decide) ⟨by decide, by decide⟩ (by decide) kw_651 kw_968 trivial de_X10_game (by decide +kernel) lk_X10_game
set_option maxRecDepth 20000 in
theorem de_X10_drawOf : px_dec cX10_drawOf (ls_X10_drawOf ++ ll_X10_drawOf) := by unfold px_dec; decide +kernel
set_option maxRecDepth 20000 in
set_option maxHeartbeats 4000000 in
theorem lk_X10_drawOf : ∀ q ∈ ll_X10_drawOf, px_okR kt_mt kt_T vwCl kt_X yX10_drawOf cX10_drawOf q.1 q.2 := List.forall_mem_cons.mpr ⟨px_k_get fk_X10_461, List.forall_mem_cons.mpr ⟨px_k_ldcw kw_970, List.forall_mem_cons.mpr ⟨px_k_put pk_X10_461, List.forall_mem_cons.mpr ⟨px_k_get fk_X10_461, fun _ h => nomatch h⟩⟩⟩⟩
set_option maxRecDepth 20000 in
theorem ok_X10_drawOf : px_okMt kt_mt kt_T vwCl kt_X M_X10_drawOf := px_mk (M := M_X10_drawOf) rfl (by decide) ⟨by decide, by decide⟩ (by decide) kw_651 kw_971 trivial de_X10_drawOf (by decide +kernel) lk_X10_drawOf
set_option maxRecDepth 20000 in
theorem de_X10_something : px_dec cX10_something (ls_X10_something ++ ll_X10_something) := by unfold px_dec; decide +kernel
set_option maxRecDepth 20000 in
set_option maxHeartbeats 4000000 in
theorem lk_X10_something : ∀ q ∈ ll_X10_something, px_okR kt_mt kt_T vwCl kt_X yX10_something cX10_something q.1 q.2 := List.forall_mem_cons.mpr ⟨px_k_get fk_X10_40, List.forall_mem_cons.mpr ⟨px_k_get fk_X10_40, List.forall_mem_cons.mpr ⟨px_k_vir (by decide) mt_229 ⟨rfl, kw_972, kw_973, kw_974, ⟨_, _, rfl⟩, pd_229⟩, List.forall_mem_cons.mpr ⟨px_k_vir (by decide) mt_229 ⟨rfl, kw_972, kw_973, kw_974, ⟨_, _, rfl⟩, pd_229⟩, List.forall_mem_cons.mpr ⟨px_k_get fk_X10_81, List.forall_mem_cons.mpr ⟨px_k_get fk_X10_40, List.forall_mem_cons.mpr ⟨px_k_get fk_X10_81, List.forall_mem_cons.mpr ⟨px_k_vir (by decide) mt_191 ⟨rfl, kw_864, kw_865, kw_866, ⟨_, _, rfl⟩, pd_191⟩, List.forall_mem_cons.mpr ⟨px_k_get fk_X10_81, fun _ h => nomatch h⟩⟩⟩⟩⟩⟩⟩⟩⟩
set_option maxRecDepth 20000 in
theorem ok_X10_something : px_okMt kt_mt kt_T vwCl kt_X M_X10_something := px_mk (M := M_X10_something) rfl (by decide) ⟨by decide, by decide⟩ (by decide) kw_651 kw_975 trivial de_X10_something (by decide +kernel) lk_X10_something
set_option maxRecDepth 20000 in
theorem de_X10_evening : px_dec cX10_evening (ls_X10_evening ++ ll_X10_evening) := by unfold px_dec; decide +kernel
set_option maxRecDepth 20000 in
set_option maxHeartbeats 4000000 in
theorem lk_X10_evening : ∀ q ∈ ll_X10_evening, px_okR kt_mt kt_T vwCl kt_X yX10_evening cX10_evening q.1 q.2 := List.forall_mem_cons.mpr ⟨px_k_put pk_X10_149, List.forall_mem_cons.mpr ⟨px_k_ldc2 kw_945, List.forall_mem_cons.mpr ⟨px_k_sta (by decide) mt_136 ⟨kw_659, kw_660, pd_136⟩, List.forall_mem_cons.mpr ⟨px_k_vir (by decide) mt_134 ⟨rfl, kw_768, kw_769, kw_770, ⟨_, _, rfl⟩, pd_134⟩, List.forall_mem_cons.mpr ⟨px_k_ldc2 kw_976, List.forall_mem_cons.mpr ⟨px_k_sta (by decide) mt_136 ⟨kw_659, kw_660, pd_136⟩, List.forall_mem_cons.mpr ⟨px_k_vir (by decide) mt_134 ⟨rfl, kw_768, kw_769, kw_770, ⟨_, _, rfl⟩, pd_134⟩, List.forall_mem_cons.mpr ⟨px_k_get fk_X10_106, List.forall_mem_cons.mpr ⟨px_k_vir (by decide) mt_170 ⟨rfl, kw_874, kw_875, kw_876, ⟨_, _, rfl⟩, pd_170⟩, List.forall_mem_cons.mpr ⟨px_k_put pk_X10_461, List.forall_mem_cons.mpr ⟨px_k_vir (by decide) mt_230 ⟨rfl, kw_977, kw_978, kw_979, ⟨_, _, rfl⟩, pd_230⟩, List.forall_mem_cons.mpr ⟨px_k_vir (by decide) mt_185 ⟨rfl, kw_885, kw_886, kw_887, ⟨_, _, rfl⟩, pd_185⟩, List.forall_mem_cons.mpr ⟨px_k_vir (by decide) mt_182 ⟨rfl, kw_813, kw_814, kw_815, ⟨_, _, rfl⟩, pd_182⟩, List.forall_mem_cons.mpr ⟨px_k_get fk_X10_40, List.forall_mem_cons.mpr ⟨px_k_get fk_X10_92, List.forall_mem_cons.mpr ⟨px_k_max kt_no1001 ⟨kw_793, kw_130, kw_131, kw_132⟩, List.forall_mem_cons.mpr ⟨px_k_vir (by decide) mt_188 ⟨rfl, kw_846, kw_847, kw_848, ⟨_, _, rfl⟩, pd_188⟩, List.forall_mem_cons.mpr ⟨px_k_sta (by decide) mt_183 ⟨kw_816, kw_817, pd_183⟩, List.forall_mem_cons.mpr ⟨px_k_get fk_X10_106, List.forall_mem_cons.mpr ⟨px_k_vir (by decide) mt_171 ⟨rfl, kw_896, kw_897, kw_898, ⟨_, _, rfl⟩, pd_171⟩, fun _ h => nomatch h⟩⟩⟩⟩⟩⟩⟩⟩⟩⟩⟩⟩⟩⟩⟩⟩⟩⟩⟩⟩
set_option maxRecDepth 20000 in
theorem ok_X10_evening : px_okMt kt_mt kt_T vwCl kt_X M_X10_evening := px_mk (M := M_X10_evening) rfl (by decide) ⟨by decide, by decide⟩ (by decide) kw_651 kw_980 trivial de_X10_evening (by decide +kernel) lk_X10_evening
set_option maxRecDepth 20000 in
theorem de_X10_be : px_dec cX10_be (ls_X10_be ++ ll_X10_be) := by unfold px_dec; decide +kernel
set_option maxRecDepth 20000 in
set_option maxHeartbeats 4000000 in
theorem lk_X10_be : ∀ q ∈ ll_X10_be, px_okR kt_mt kt_T vwCl kt_X yX10_be cX10_be q.1 q.2 := fun _ h => nomatch h
set_option maxRecDepth 20000 in
theorem ok_X10_be : px_okMt kt_mt kt_T vwCl kt_X M_X10_be := px_mk (M := M_X10_be) rfl (by decide) ⟨by decide, by decide⟩ (by decide) kw_651 kw_981 trivial de_X10_be (by decide +kernel) lk_X10_be
set_option maxRecDepth 20000 in
theorem de_X10_image : px_dec cX10_image (ls_X10_image ++ ll_X10_image) := by unfold px_dec; decide +kernel
set_option maxRecDepth 20000 in
set_option maxHeartbeats 4000000 in
theorem lk_X10_image : ∀ q ∈ ll_X10_image, px_okR kt_mt kt_T vwCl kt_X yX10_image cX10_image q.1 q.2 := List.forall_mem_cons.mpr ⟨px_k_put pk_X10_149, List.forall_mem_cons.mpr ⟨px_k_put pk_X10_307, List.forall_mem_cons.mpr ⟨px_k_get fk_X10_301, List.forall_mem_cons.mpr ⟨px_k_put pk_X10_473, List.forall_mem_cons.mpr ⟨px_k_get fk_X10_304, List.forall_mem_cons.mpr ⟨px_k_put pk_X10_476, List.forall_mem_cons.mpr ⟨px_k_get fk_X10_134, List.forall_mem_cons.mpr ⟨px_k_vir (by decide) mt_170 ⟨rfl, kw_874, kw_875, kw_876, ⟨_, _, rfl⟩, pd_170⟩, List.forall_mem_cons.mpr ⟨px_k_get fk_X10_137, List.forall_mem_cons.mpr ⟨px_k_get fk_X10_97, List.forall_mem_cons.mpr ⟨px_k_sta (by decide) mt_232 ⟨kw_984, kw_985, pd_232⟩, List.forall_mem_cons.mpr ⟨px_k_get fk_X10_140, List.forall_mem_cons.mpr ⟨px_k_get fk_X10_118, List.forall_mem_cons.mpr ⟨px_k_sta (by decide) mt_232 ⟨kw_984, kw_985, pd_232⟩, List.forall_mem_cons.mpr ⟨px_k_get fk_X10_143, List.forall_mem_cons.mpr ⟨px_k_get fk_X10_121, List.forall_mem_cons.mpr ⟨px_k_sta (by decide) mt_232 ⟨kw_984, kw_985, pd_232⟩, List.forall_mem_cons.mpr ⟨px_k_get fk_X10_146, List.forall_mem_cons.mpr ⟨px_k_get fk_X10_71, List.forall_mem_cons.mpr ⟨px_k_sta (by decide) mt_232 ⟨kw_984, kw_985, pd_232⟩, fun _ h => nomatch h⟩⟩⟩⟩⟩⟩⟩⟩⟩⟩⟩⟩⟩⟩⟩⟩⟩⟩⟩⟩
set_option maxRecDepth 20000 in
theorem ok_X10_image : px_okMt kt_mt kt_T vwCl kt_X M_X10_image := px_mk (M := M_X10_image) rfl (by decide) ⟨by decide, by decide⟩ (by decide) kw_651 kw_986 trivial de_X10_image (by decide +kernel) lk_X10_image
set_option maxRecDepth 20000 in
theorem de_X10_restore : px_dec cX10_restore (ls_X10_restore ++ ll_X10_restore) := by unfold px_dec; decide +kernel
set_option maxRecDepth 20000 in
set_option maxHeartbeats 4000000 in
theorem lk_X10_restore : ∀ q ∈ ll_X10_restore, px_okR kt_mt kt_T vwCl kt_X yX10_restore cX10_restore q.1 q.2 := List.forall_mem_cons.mpr ⟨px_k_put pk_X10_149, List.forall_mem_cons.mpr ⟨px_k_get fk_X10_307, List.forall_mem_cons.mpr ⟨px_k_get fk_X10_473, List.forall_mem_cons.mpr ⟨px_k_put pk_X10_301, List.forall_mem_cons.mpr ⟨px_k_get fk_X10_476, List.forall_mem_cons.mpr ⟨px_k_put pk_X10_304, List.forall_mem_cons.mpr ⟨px_k_get fk_X10_134, List.forall_mem_cons.mpr ⟨px_k_vir (by decide) mt_171 ⟨rfl, kw_896, kw_897, kw_898, ⟨_, _, rfl⟩, pd_171⟩, List.forall_mem_cons.mpr ⟨px_k_get fk_X10_97, List.forall_mem_cons.mpr ⟨px_k_get fk_X10_137, List.forall_mem_cons.mpr ⟨px_k_sta (by decide) mt_232 ⟨kw_984, kw_985, pd_232⟩, List.forall_mem_cons.mpr ⟨px_k_get fk_X10_118, List.forall_mem_cons.mpr ⟨px_k_get fk_X10_140, List.forall_mem_cons.mpr ⟨px_k_sta (by decide) mt_232 ⟨kw_984, kw_985, pd_232⟩, List.forall_mem_cons.mpr ⟨px_k_get fk_X10_121, List.forall_mem_cons.mpr ⟨px_k_get fk_X10_143, List.forall_mem_cons.mpr ⟨px_k_sta (by decide) mt_232 ⟨kw_984, kw_985, pd_232⟩, List.forall_mem_cons.mpr ⟨px_k_get fk_X10_71, List.forall_mem_cons.mpr ⟨px_k_get fk_X10_146, List.forall_mem_cons.mpr ⟨px_k_sta (by decide) mt_232 ⟨kw_984, kw_985, pd_232⟩, fun _ h => nomatch h⟩⟩⟩⟩⟩⟩⟩⟩⟩⟩⟩⟩⟩⟩⟩⟩⟩⟩⟩⟩
set_option maxRecDepth 20000 in
theorem ok_X10_restore : px_okMt kt_mt kt_T vwCl kt_X M_X10_restore := px_mk (M := M_X10_restore) rfl (by decide) ⟨by decide, by decide⟩ (by decide) kw_651 kw_987 trivial de_X10_restore (by decide +kernel) lk_X10_restore
set_option maxRecDepth 20000 in
theorem de_J6_bitCount_0f7a4 : px_dec cJ6_bitCount_0f7a4 (ls_J6_bitCount_0f7a4 ++ ll_J6_bitCount_0f7a4) := by unfold px_dec; decide +kernel
set_option maxRecDepth 20000 in
set_option maxHeartbeats 4000000 in
theorem lk_J6_bitCount_0f7a4 : ∀ q ∈ ll_J6_bitCount_0f7a4, px_okR kt_mt kt_T vwCl kt_X yJ6_bitCount_0f7a4 cJ6_bitCount_0f7a4 q.1 q.2 := List.forall_mem_cons.mpr ⟨px_k_ldcw kw_988, List.forall_mem_cons.mpr ⟨px_k_ldcw kw_989, List.forall_mem_cons.mpr ⟨px_k_ldcw kw_989, List.forall_mem_cons.mpr ⟨px_k_ldcw kw_990, fun _ h => nomatch h⟩⟩⟩⟩
set_option maxRecDepth 20000 in
theorem ok_J6_bitCount_0f7a4 : px_okMt kt_mt kt_T vwCl kt_X M_J6_bitCount_0f7a4 := px_mk (M := M_J6_bitCount_0f7a4) rfl (by decide) ⟨by decide, by decide⟩ (by decide) kw_991 kw_992 trivial de_J6_bitCount_0f7a4 (by decide +kernel) lk_J6_bitCount_0f7a4
set_option maxRecDepth 20000 in
theorem de_J7_fill_53178 : px_dec cJ7_fill_53178 (ls_J7_fill_53178 ++ ll_J7_fill_53178) := by unfold px_dec; decide +kernel
set_option maxRecDepth 20000 in
set_option maxHeartbeats 4000000 in
theorem lk_J7_fill_53178 : ∀ q ∈ ll_J7_fill_53178, px_okR kt_mt kt_T vwCl kt_X yJ7_fill_53178 cJ7_fill_53178 q.1 q.2 := fun _ h => nomatch h
set_option maxRecDepth 20000 in
theorem ok_J7_fill_53178 : px_okMt kt_mt kt_T vwCl kt_X M_J7_fill_53178 := px_mk (M := M_J7_fill_53178) rfl (by decide) ⟨by decide, by decide⟩ (by decide) kw_993 kw_994 trivial de_J7_fill_53178 (by decide +kernel) lk_J7_fill_53178
set_option maxRecDepth 20000 in
theorem de_L_kitchen : px_dec cL_kitchen (ls_L_kitchen ++ ll_L_kitchen) := by unfold px_dec; decide +kernel
set_option maxRecDepth 20000 in
set_option maxHeartbeats 4000000 in
theorem lk_L_kitchen : ∀ q ∈ ll_L_kitchen, px_okR kt_mt kt_T vwCl kt_X yL_kitchen cL_kitchen q.1 q.2 := List.forall_mem_cons.mpr ⟨px_k_vir (by decide) mt_80 ⟨rfl, kw_995, kw_996, kw_997, ⟨_, _, rfl⟩, pd_80⟩, fun _ h => nomatch h⟩
set_option maxRecDepth 20000 in
theorem ok_L_kitchen : px_okMt kt_mt kt_T vwCl kt_X M_L_kitchen := px_mk (M := M_L_kitchen) rfl (by decide) ⟨by decide, by decide⟩ (by decide) kw_998 kw_999 ⟨by decide, by decide, kw_1000, trivial⟩ de_L_kitchen (by decide +kernel) lk_L_kitchen
set_option maxRecDepth 20000 in
theorem de_L_count : px_dec cL_count (ls_L_count ++ ll_L_count) := by unfold px_dec; decide +kernel
set_option maxRecDepth 20000 in
set_option maxHeartbeats 4000000 in
theorem lk_L_count : ∀ q ∈ ll_L_count, px_okR kt_mt kt_T vwCl kt_X yL_count cL_count q.1 q.2 := List.forall_mem_cons.mpr ⟨px_k_vir (by decide) mt_82 ⟨rfl, kw_1001, kw_1002, kw_1003, ⟨_, _, rfl⟩, pd_82⟩, fun _ h => nomatch h⟩
set_option maxRecDepth 20000 in
theorem ok_L_count : px_okMt kt_mt kt_T vwCl kt_X M_L_count := px_mk (M := M_L_count) rfl (by decide) ⟨by decide, by decide⟩ (by decide) kw_998 kw_1004 ⟨by decide, by decide, kw_1005, trivial⟩ de_L_count (by decide +kernel) lk_L_count
set_option maxRecDepth 20000 in
theorem de_L_kettle : px_dec cL_kettle (ls_L_kettle ++ ll_L_kettle) := by unfold px_dec; decide +kernel
set_option maxRecDepth 20000 in
set_option maxHeartbeats 4000000 in
theorem lk_L_kettle : ∀ q ∈ ll_L_kettle, px_okR kt_mt kt_T vwCl kt_X yL_kettle cL_kettle q.1 q.2 := List.forall_mem_cons.mpr ⟨px_k_vir (by decide) mt_83 ⟨rfl, kw_1006, kw_1007, kw_1008, ⟨_, _, rfl⟩, pd_83⟩, fun _ h => nomatch h⟩
set_option maxRecDepth 20000 in
theorem ok_L_kettle : px_okMt kt_mt kt_T vwCl kt_X M_L_kettle := px_mk (M := M_L_kettle) rfl (by decide) ⟨by decide, by decide⟩ (by decide) kw_998 kw_1009 ⟨by decide, by decide, kw_1005, trivial⟩ de_L_kettle (by decide +kernel) lk_L_kettle
