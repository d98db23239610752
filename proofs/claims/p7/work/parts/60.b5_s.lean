section
set_option maxHeartbeats 4000000 in
set_option maxRecDepth 100000 in
theorem cx_seasons {p : Program} {e : Env} {s : State} {m : MethodId} {below : List Frame} {meth : Method} {c : Code} (l : Launch) {sb L : Nat} {xs : Nat → Int32} {A : Nat → Prop} (C0 : lw_At p s m meth c sb L xs) (hA : ∀ q, s.heap.size ≤ q → A q) {G : va_G} {cs : Nat → ClassId} {xe : XE} (hN : NW s) (hK : va_K G vwCl (tyL cs) s) (hxe : isRf xe.2.2) (hZ : XZ xe A s) {Q : State → Prop} {H : Heap} {locs : List Loc} {ls : Array Slot} {cells slots : Nat} {ws R : va_W} {h0 : Nat} {f_h0_kept : Nat → Int32} {h0_reader_length : Int32} {f_h0_reader_bytes : Nat → Int32} {zw : Nat → Int} {zU : UL} {zl : Nat → List Cls} {zWI : Nat → Nat → Int} {zLI : Nat → Nat → List Cls} {zft : Int} {zsp : Int} {zmd : Int} {zla : Int} {zrf : Nat → Int32} {zD : ODr} (a : Int32) (b : Int32) (hC : CX cs h0 f_h0_kept h0_reader_length f_h0_reader_bytes zw zU zl zWI zLI zft zsp zmd zla zrf zD ws) (hP : va_P G vwCl (ws ++ R) H) (hD : va_D A (ws ++ R)) (hS : va_S A s.heap H locs) (hls : ls.size = 4) (hf : cells ≤ 590000 ∧ slots ≤ 7300000) (kk : ∀ (r : Int32) (ws₉ : va_W) (H1 : Heap) (locs1 : List Loc), CX cs h0 f_h0_kept h0_reader_length f_h0_reader_bytes zw zU zl zWI zLI zft zsp zmd (tlS (seaB zw a.toInt b.toInt)) (tlR zrf (seaB zw a.toInt b.toInt)) (seaD zD zl zw a.toInt b.toInt) ws₉ → va_P G vwCl (ws₉ ++ R) H1 → va_D A (ws₉ ++ R) → va_S A s.heap H1 locs1 → W p l e room_1 s m #[Value.ref sb] below meth c H1 locs1 cells slots Q (F0 m 1322 ls [Value.int r])) : W p l e room_1 s m #[Value.ref sb] below meth c H locs cells slots Q (F0 m 1319 ls [Value.int b, Value.int a, Value.ref h0]) := by
  obtain ⟨hx, hb, hr, hml, hown, hts, hX, hbl, hlocks, hgv⟩ := id C0
  have hb : c.code = cL_law := hb
  have hown : s.vm.findClass RL = some m.cls := hown
  have htl := gW_l hts
  refine CXe hC (fun h0_asker h0_site h0_paper h0_images h0_kept h0_reader h0_ways h0_ears h0_drawnCrew h0_drawnDay h0_latestMud h0_stoppedAt h0_refusals h0_latestRefusal h0_asker_stack h0_asker_world h0_asker_law h0_asker_cell h0_asker_shaft h0_asker_kind h0_asker_done h0_asker_latest h0_asker_value h0_site_world h0_site_diary h0_site_done h0_site_latest h0_paper_world h0_paper_diary h0_paper_done h0_paper_latest h0_reader_bytes h0_reader_tokens h0_reader_places h0_reader_tokenCount h0_reader_now h0_reader_parts h0_reader_asOrders h0_reader_faultPlace h0_reader_draft h0_ways_cost h0_ways_endsWay h0_ways_left h0_ways_path h0_ways_steps h0_ways_days h0_ways_told h0_ways_price h0_ways_fewest h0_ways_cellOfShaft h0_ways_chance h0_ears_said h0_ears_lost h0_ears_alike h0_drawnCrew_cell h0_drawnCrew_buckets h0_drawnCrew_count f_h0_refusals f_h0_asker_stack h0_site_world_rock h0_site_world_crew h0_site_world_folk h0_site_world_term h0_site_world_laws h0_site_world_lawCount h0_site_world_force h0_site_diary_deed h0_site_diary_whose h0_site_diary_before h0_site_diary_bucketsBefore h0_site_diary_dayBefore h0_site_diary_kept h0_site_diary_latest h0_paper_world_rock h0_paper_world_crew h0_paper_world_folk h0_paper_world_term h0_paper_world_laws h0_paper_world_lawCount h0_paper_world_force h0_paper_diary_deed h0_paper_diary_whose h0_paper_diary_before h0_paper_diary_bucketsBefore h0_paper_diary_dayBefore h0_paper_diary_kept h0_paper_diary_latest w0 w0_rock w0_crew w0_folk w0_term w0_laws w0_lawCount w0_force w1 w1_rock w1_crew w1_folk w1_term w1_laws w1_lawCount w1_force f_h0_reader_tokens f_h0_reader_places h0_reader_draft_heads h0_reader_draft_code h0_reader_draft_clauses h0_reader_draft_length f_h0_ways_cost f_h0_ways_endsWay f_h0_ways_left f_h0_ways_path f_h0_ways_told f_h0_ways_price f_h0_ways_fewest f_h0_ways_cellOfShaft f_h0_ways_chance f_h0_ears_said f_h0_ears_lost f_h0_ears_alike f_h0_drawnCrew_cell f_h0_drawnCrew_buckets h0_site_world_rock_kind h0_site_world_rock_hard h0_site_world_rock_water h0_site_world_rock_dug h0_site_world_crew_cell h0_site_world_crew_buckets h0_site_world_crew_count h0_site_world_folk_column h0_site_world_folk_ear h0_site_world_folk_listeners h0_site_world_folk_noiseColumn h0_site_world_folk_noiseLoud h0_site_world_folk_noises h0_site_world_folk_hushed h0_site_world_folk_hearsayColumn h0_site_world_folk_hearsayLoud h0_site_world_folk_hearsay h0_site_world_folk_sounds h0_site_world_folk_wet h0_site_world_folk_wells f_h0_site_world_term f_h0_site_world_laws f_h0_site_diary_deed f_h0_site_diary_whose f_h0_site_diary_before f_h0_site_diary_bucketsBefore f_h0_site_diary_dayBefore h0_paper_world_rock_kind h0_paper_world_rock_hard h0_paper_world_rock_water h0_paper_world_rock_dug h0_paper_world_crew_cell h0_paper_world_crew_buckets h0_paper_world_crew_count h0_paper_world_folk_column h0_paper_world_folk_ear h0_paper_world_folk_listeners h0_paper_world_folk_noiseColumn h0_paper_world_folk_noiseLoud h0_paper_world_folk_noises h0_paper_world_folk_hushed h0_paper_world_folk_hearsayColumn h0_paper_world_folk_hearsayLoud h0_paper_world_folk_hearsay h0_paper_world_folk_sounds h0_paper_world_folk_wet h0_paper_world_folk_wells f_h0_paper_world_term f_h0_paper_world_laws f_h0_paper_diary_deed f_h0_paper_diary_whose f_h0_paper_diary_before f_h0_paper_diary_bucketsBefore f_h0_paper_diary_dayBefore w0_rock_kind w0_rock_hard w0_rock_water w0_rock_dug w0_crew_cell w0_crew_buckets w0_crew_count w0_folk_column w0_folk_ear w0_folk_listeners w0_folk_noiseColumn w0_folk_noiseLoud w0_folk_noises w0_folk_hushed w0_folk_hearsayColumn w0_folk_hearsayLoud w0_folk_hearsay w0_folk_sounds w0_folk_wet w0_folk_wells f_w0_term f_w0_laws w1_rock_kind w1_rock_hard w1_rock_water w1_rock_dug w1_crew_cell w1_crew_buckets w1_crew_count w1_folk_column w1_folk_ear w1_folk_listeners w1_folk_noiseColumn w1_folk_noiseLoud w1_folk_noises w1_folk_hushed w1_folk_hearsayColumn w1_folk_hearsayLoud w1_folk_hearsay w1_folk_sounds w1_folk_wet w1_folk_wells f_w1_term f_w1_laws f_h0_reader_draft_heads f_h0_reader_draft_code f_h0_site_world_rock_kind f_h0_site_world_rock_hard f_h0_site_world_rock_water f_h0_site_world_crew_cell f_h0_site_world_crew_buckets f_h0_site_world_folk_column f_h0_site_world_folk_ear f_h0_site_world_folk_noiseColumn f_h0_site_world_folk_noiseLoud f_h0_site_world_folk_hearsayColumn f_h0_site_world_folk_hearsayLoud f_h0_site_world_folk_sounds f_h0_site_world_folk_wet f_h0_paper_world_rock_kind f_h0_paper_world_rock_hard f_h0_paper_world_rock_water f_h0_paper_world_crew_cell f_h0_paper_world_crew_buckets f_h0_paper_world_folk_column f_h0_paper_world_folk_ear f_h0_paper_world_folk_noiseColumn f_h0_paper_world_folk_noiseLoud f_h0_paper_world_folk_hearsayColumn f_h0_paper_world_folk_hearsayLoud f_h0_paper_world_folk_sounds f_h0_paper_world_folk_wet f_w0_rock_kind f_w0_rock_hard f_w0_rock_water f_w0_crew_cell f_w0_crew_buckets f_w0_folk_column f_w0_folk_ear f_w0_folk_noiseColumn f_w0_folk_noiseLoud f_w0_folk_hearsayColumn f_w0_folk_hearsayLoud f_w0_folk_sounds f_w0_folk_wet f_w1_rock_kind f_w1_rock_hard f_w1_rock_water f_w1_crew_cell f_w1_crew_buckets f_w1_folk_column f_w1_folk_ear f_w1_folk_noiseColumn f_w1_folk_noiseLoud f_w1_folk_hearsayColumn f_w1_folk_hearsayLoud f_w1_folk_sounds f_w1_folk_wet txs i_h0_asker_cell i_h0_reader_length i_h0_reader_tokenCount i_h0_reader_asOrders i_h0_ways_steps i_h0_ways_days i_h0_drawnCrew_count i_h0_site_world_lawCount i_h0_site_world_force i_h0_site_diary_kept i_h0_site_diary_latest i_h0_paper_world_lawCount i_h0_paper_world_force i_h0_paper_diary_kept i_h0_paper_diary_latest i_w0_lawCount i_w0_force i_w1_lawCount i_w1_force i_f_h0_reader_bytes i_h0_reader_draft_clauses i_h0_reader_draft_length i_f_h0_ways_cost i_f_h0_ways_left i_f_h0_ways_told i_f_h0_ways_price i_f_h0_ways_fewest i_f_h0_ears_said i_f_h0_ears_lost i_f_h0_drawnCrew_cell i_f_h0_drawnCrew_buckets i_h0_site_world_crew_count i_h0_site_world_folk_listeners i_h0_site_world_folk_noises i_h0_site_world_folk_hearsay i_h0_site_world_folk_wells i_f_h0_site_world_term i_h0_paper_world_crew_count i_h0_paper_world_folk_listeners i_h0_paper_world_folk_noises i_h0_paper_world_folk_hearsay i_h0_paper_world_folk_wells i_f_h0_paper_world_term i_w0_crew_count i_w0_folk_listeners i_w0_folk_noises i_w0_folk_hearsay i_w0_folk_wells i_f_w0_term i_w1_crew_count i_w1_folk_listeners i_w1_folk_noises i_w1_folk_hearsay i_w1_folk_wells i_f_w1_term i_f_h0_reader_draft_heads i_f_h0_reader_draft_code i_f_h0_site_world_rock_kind i_f_h0_site_world_rock_hard i_f_h0_site_world_rock_water i_f_h0_site_world_crew_cell i_f_h0_site_world_crew_buckets i_f_h0_site_world_folk_column i_f_h0_site_world_folk_ear i_f_h0_site_world_folk_noiseColumn i_f_h0_site_world_folk_noiseLoud i_f_h0_site_world_folk_hearsayColumn i_f_h0_site_world_folk_hearsayLoud i_f_h0_paper_world_rock_kind i_f_h0_paper_world_rock_hard i_f_h0_paper_world_rock_water i_f_h0_paper_world_crew_cell i_f_h0_paper_world_crew_buckets i_f_h0_paper_world_folk_column i_f_h0_paper_world_folk_ear i_f_h0_paper_world_folk_noiseColumn i_f_h0_paper_world_folk_noiseLoud i_f_h0_paper_world_folk_hearsayColumn i_f_h0_paper_world_folk_hearsayLoud i_f_w0_rock_kind i_f_w0_rock_hard i_f_w0_rock_water i_f_w0_crew_cell i_f_w0_crew_buckets i_f_w0_folk_column i_f_w0_folk_ear i_f_w0_folk_noiseColumn i_f_w0_folk_noiseLoud i_f_w0_folk_hearsayColumn i_f_w0_folk_hearsayLoud i_f_w1_rock_kind i_f_w1_rock_hard i_f_w1_rock_water i_f_w1_crew_cell i_f_w1_crew_buckets i_f_w1_folk_column i_f_w1_folk_ear i_f_w1_folk_noiseColumn i_f_w1_folk_noiseLoud i_f_w1_folk_hearsayColumn i_f_w1_folk_hearsayLoud i_di i_lw_site i_lw_w0 i_lw_w1 i_tx t_rx t_ru t_lw t_w0 t_l0 t_w1 t_l1 t_ft t_sp t_md t_la t_rf t_rn e0 => ?_)
  subst e0
  have hP1 := hP
  have hD1 := hD
  rw [List.append_assoc] at hP1 hD1
  rcases t_lw.cs i_lw_site.2.2.1 i_h0_site_world_lawCount.2 i_lw_site.2.2.2.2 (RXw.fo t_rx) with hf1 | ⟨hf0, hf5, ta, tb, tx, etx, elaw, hxt, hok⟩
  · refine miL (wr := [(h0_images, Sum.inl (cs 4, 2, Sum.inr (Sum.inr (Sum.inr (Sum.inr (va_up (va_up (fun _ => none) 0 (some w0)) 1 (some w1))))))), (h0_kept, Sum.inl (cs 2, 2, Sum.inl f_h0_kept)), (h0_reader, Sum.inr (5, [Value.ref h0_reader_bytes, Value.int h0_reader_length, Value.ref h0_reader_tokens, Value.ref h0_reader_places, Value.int h0_reader_tokenCount, Value.int h0_reader_now, Value.int h0_reader_parts, Value.int h0_reader_asOrders, Value.int h0_reader_faultPlace, Value.ref h0_reader_draft])), (h0_ways, Sum.inr (9, [Value.ref h0_ways_cost, Value.ref h0_ways_endsWay, Value.ref h0_ways_left, Value.ref h0_ways_path, Value.int h0_ways_steps, Value.int h0_ways_days, Value.ref h0_ways_told, Value.ref h0_ways_price, Value.ref h0_ways_fewest, Value.ref h0_ways_cellOfShaft, Value.ref h0_ways_chance])), (h0_ears, Sum.inr (3, [Value.ref h0_asker, Value.ref h0_ears_said, Value.ref h0_ears_lost, Value.ref h0_ears_alike])), (h0_asker_stack, Sum.inl (cs 1, 64, Sum.inr (Sum.inl f_h0_asker_stack))), (w0, Sum.inr (10, [Value.ref w0_rock, Value.ref w0_crew, Value.ref w0_folk, Value.ref w0_term, Value.ref w0_laws, Value.int w0_lawCount, Value.int w0_force])), (w1, Sum.inr (10, [Value.ref w1_rock, Value.ref w1_crew, Value.ref w1_folk, Value.ref w1_term, Value.ref w1_laws, Value.int w1_lawCount, Value.int w1_force])), (h0_reader_bytes, Sum.inl (cs 0, 400, Sum.inl f_h0_reader_bytes)), (h0_reader_tokens, Sum.inl (cs 0, 401, Sum.inl f_h0_reader_tokens)), (h0_reader_places, Sum.inl (cs 0, 401, Sum.inl f_h0_reader_places)), (h0_reader_draft, Sum.inr (8, [Value.ref h0_reader_draft_heads, Value.ref h0_reader_draft_code, Value.int h0_reader_draft_clauses, Value.int h0_reader_draft_length])), (h0_ways_cost, Sum.inl (cs 0, 40, Sum.inl f_h0_ways_cost)), (h0_ways_endsWay, Sum.inl (cs 2, 40, Sum.inl f_h0_ways_endsWay)), (h0_ways_left, Sum.inl (cs 0, 40, Sum.inl f_h0_ways_left)), (h0_ways_path, Sum.inl (cs 0, 40, Sum.inl f_h0_ways_path)), (h0_ways_told, Sum.inl (cs 0, 6, Sum.inl f_h0_ways_told)), (h0_ways_price, Sum.inl (cs 0, 36, Sum.inl f_h0_ways_price)), (h0_ways_fewest, Sum.inl (cs 0, 448, Sum.inl f_h0_ways_fewest)), (h0_ways_cellOfShaft, Sum.inl (cs 0, 6, Sum.inl f_h0_ways_cellOfShaft)), (h0_ways_chance, Sum.inl (cs 1, 201, Sum.inr (Sum.inl f_h0_ways_chance))), (h0_ears_said, Sum.inl (cs 0, 40, Sum.inl f_h0_ears_said)), (h0_ears_lost, Sum.inl (cs 0, 40, Sum.inl f_h0_ears_lost)), (h0_ears_alike, Sum.inl (cs 0, 100, Sum.inl f_h0_ears_alike)), (w0_rock, Sum.inr (6, [Value.ref w0_rock_kind, Value.ref w0_rock_hard, Value.ref w0_rock_water, Value.long w0_rock_dug])), (w0_crew, Sum.inr (1, [Value.ref w0_crew_cell, Value.ref w0_crew_buckets, Value.int w0_crew_count])), (w0_folk, Sum.inr (4, [Value.ref w0_folk_column, Value.ref w0_folk_ear, Value.int w0_folk_listeners, Value.ref w0_folk_noiseColumn, Value.ref w0_folk_noiseLoud, Value.int w0_folk_noises, Value.int w0_folk_hushed, Value.ref w0_folk_hearsayColumn, Value.ref w0_folk_hearsayLoud, Value.int w0_folk_hearsay, Value.ref w0_folk_sounds, Value.ref w0_folk_wet, Value.int w0_folk_wells])), (w0_term, Sum.inl (cs 0, 3, Sum.inl f_w0_term)), (w0_laws, Sum.inl (cs 3, 6, Sum.inr (Sum.inr (Sum.inr (Sum.inr f_w0_laws))))), (w1_rock, Sum.inr (6, [Value.ref w1_rock_kind, Value.ref w1_rock_hard, Value.ref w1_rock_water, Value.long w1_rock_dug])), (w1_crew, Sum.inr (1, [Value.ref w1_crew_cell, Value.ref w1_crew_buckets, Value.int w1_crew_count])), (w1_folk, Sum.inr (4, [Value.ref w1_folk_column, Value.ref w1_folk_ear, Value.int w1_folk_listeners, Value.ref w1_folk_noiseColumn, Value.ref w1_folk_noiseLoud, Value.int w1_folk_noises, Value.int w1_folk_hushed, Value.ref w1_folk_hearsayColumn, Value.ref w1_folk_hearsayLoud, Value.int w1_folk_hearsay, Value.ref w1_folk_sounds, Value.ref w1_folk_wet, Value.int w1_folk_wells])), (w1_term, Sum.inl (cs 0, 3, Sum.inl f_w1_term)), (w1_laws, Sum.inl (cs 3, 6, Sum.inr (Sum.inr (Sum.inr (Sum.inr f_w1_laws))))), (h0_reader_draft_heads, Sum.inl (cs 0, 60, Sum.inl f_h0_reader_draft_heads)), (h0_reader_draft_code, Sum.inl (cs 0, 400, Sum.inl f_h0_reader_draft_code)), (w0_rock_kind, Sum.inl (cs 0, 40, Sum.inl f_w0_rock_kind)), (w0_rock_hard, Sum.inl (cs 0, 40, Sum.inl f_w0_rock_hard)), (w0_rock_water, Sum.inl (cs 0, 40, Sum.inl f_w0_rock_water)), (w0_crew_cell, Sum.inl (cs 0, 6, Sum.inl f_w0_crew_cell)), (w0_crew_buckets, Sum.inl (cs 0, 6, Sum.inl f_w0_crew_buckets)), (w0_folk_column, Sum.inl (cs 0, 5, Sum.inl f_w0_folk_column)), (w0_folk_ear, Sum.inl (cs 0, 5, Sum.inl f_w0_folk_ear)), (w0_folk_noiseColumn, Sum.inl (cs 0, 6, Sum.inl f_w0_folk_noiseColumn)), (w0_folk_noiseLoud, Sum.inl (cs 0, 6, Sum.inl f_w0_folk_noiseLoud)), (w0_folk_hearsayColumn, Sum.inl (cs 0, 8, Sum.inl f_w0_folk_hearsayColumn)), (w0_folk_hearsayLoud, Sum.inl (cs 0, 8, Sum.inl f_w0_folk_hearsayLoud)), (w0_folk_sounds, Sum.inl (cs 0, 10, Sum.inl f_w0_folk_sounds)), (w0_folk_wet, Sum.inl (cs 0, 10, Sum.inl f_w0_folk_wet)), (w1_rock_kind, Sum.inl (cs 0, 40, Sum.inl f_w1_rock_kind)), (w1_rock_hard, Sum.inl (cs 0, 40, Sum.inl f_w1_rock_hard)), (w1_rock_water, Sum.inl (cs 0, 40, Sum.inl f_w1_rock_water)), (w1_crew_cell, Sum.inl (cs 0, 6, Sum.inl f_w1_crew_cell)), (w1_crew_buckets, Sum.inl (cs 0, 6, Sum.inl f_w1_crew_buckets)), (w1_folk_column, Sum.inl (cs 0, 5, Sum.inl f_w1_folk_column)), (w1_folk_ear, Sum.inl (cs 0, 5, Sum.inl f_w1_folk_ear)), (w1_folk_noiseColumn, Sum.inl (cs 0, 6, Sum.inl f_w1_folk_noiseColumn)), (w1_folk_noiseLoud, Sum.inl (cs 0, 6, Sum.inl f_w1_folk_noiseLoud)), (w1_folk_hearsayColumn, Sum.inl (cs 0, 8, Sum.inl f_w1_folk_hearsayColumn)), (w1_folk_hearsayLoud, Sum.inl (cs 0, 8, Sum.inl f_w1_folk_hearsayLoud)), (w1_folk_sounds, Sum.inl (cs 0, 10, Sum.inl f_w1_folk_sounds)), (w1_folk_wet, Sum.inl (cs 0, 10, Sum.inl f_w1_folk_wet))]) (mkVX (rest := []) ⟨hx, hb, hml, hown, htl⟩ hN hK (P_left hP1) (D_left hD1) (fun U hU hW => hZ.XT (cs := cs) hU hW hS (va_free (D_left hD1) hS hA [0, 10, 2, 12, 37, 3, 14, 46, 36, 68, 81, 69, 82, 70, 83, 47, 71, 84, 72, 85, 48, 38, 73, 86, 74, 87, 75, 88, 76, 89, 77, 90, 78, 91, 79, 92, 80, 93, 49, 39, 40, 50, 15, 13, 41, 51, 42, 52, 43, 53, 44, 54, 45, 55, 1, 9, 34, 35] rfl) (T_out hP1 hD1 (isC := [0, 10, 2, 12, 37, 3, 14, 46, 36, 68, 81, 69, 82, 70, 83, 47, 71, 84, 72, 85, 48, 38, 73, 86, 74, 87, 75, 88, 76, 89, 77, 90, 78, 91, 79, 92, 80, 93, 49, 39, 40, 50, 15, 13, 41, 51, 42, 52, 43, 53, 44, 54, 45, 55, 1, 9, 34, 35]) rfl)) (g_X11_seasons_N l G cs h0 a b h0_asker h0_site h0_paper h0_images h0_kept h0_reader h0_ways h0_ears h0_drawnCrew h0_drawnDay h0_latestMud h0_stoppedAt h0_refusals h0_latestRefusal (f_h0_refusals) h0_site_world h0_site_diary h0_site_done h0_site_latest h0_site_world_rock h0_site_world_crew h0_site_world_folk h0_site_world_term h0_site_world_laws h0_site_world_lawCount h0_site_world_force h0_site_world_crew_cell h0_site_world_crew_buckets h0_site_world_crew_count h0_paper_world h0_paper_diary h0_paper_done h0_paper_latest h0_paper_world_rock h0_paper_world_crew h0_paper_world_folk h0_paper_world_term h0_paper_world_laws h0_paper_world_lawCount h0_paper_world_force h0_paper_world_rock_kind h0_paper_world_rock_hard h0_paper_world_rock_water h0_paper_world_rock_dug h0_site_world_rock_kind h0_site_world_rock_hard h0_site_world_rock_water h0_site_world_rock_dug (f_h0_site_world_rock_kind) (f_h0_paper_world_rock_kind) (f_h0_site_world_rock_hard) (f_h0_paper_world_rock_hard) (f_h0_site_world_rock_water) (f_h0_paper_world_rock_water) h0_paper_world_crew_cell h0_paper_world_crew_buckets h0_paper_world_crew_count (f_h0_site_world_crew_cell) (f_h0_paper_world_crew_cell) (f_h0_site_world_crew_buckets) (f_h0_paper_world_crew_buckets) h0_paper_world_folk_column h0_paper_world_folk_ear h0_paper_world_folk_listeners h0_paper_world_folk_noiseColumn h0_paper_world_folk_noiseLoud h0_paper_world_folk_noises h0_paper_world_folk_hushed h0_paper_world_folk_hearsayColumn h0_paper_world_folk_hearsayLoud h0_paper_world_folk_hearsay h0_paper_world_folk_sounds h0_paper_world_folk_wet h0_paper_world_folk_wells h0_site_world_folk_column h0_site_world_folk_ear h0_site_world_folk_listeners h0_site_world_folk_noiseColumn h0_site_world_folk_noiseLoud h0_site_world_folk_noises h0_site_world_folk_hushed h0_site_world_folk_hearsayColumn h0_site_world_folk_hearsayLoud h0_site_world_folk_hearsay h0_site_world_folk_sounds h0_site_world_folk_wet h0_site_world_folk_wells (f_h0_site_world_folk_column) (f_h0_paper_world_folk_column) (f_h0_site_world_folk_ear) (f_h0_paper_world_folk_ear) (f_h0_site_world_folk_noiseColumn) (f_h0_paper_world_folk_noiseColumn) (f_h0_site_world_folk_noiseLoud) (f_h0_paper_world_folk_noiseLoud) (f_h0_site_world_folk_hearsayColumn) (f_h0_paper_world_folk_hearsayColumn) (f_h0_site_world_folk_hearsayLoud) (f_h0_paper_world_folk_hearsayLoud) (f_h0_site_world_folk_sounds) (f_h0_paper_world_folk_sounds) (f_h0_site_world_folk_wet) (f_h0_paper_world_folk_wet) (f_h0_paper_world_term) (f_h0_site_world_term) (f_h0_site_world_laws) (f_h0_paper_world_laws) h0_paper_diary_deed h0_paper_diary_whose h0_paper_diary_before h0_paper_diary_bucketsBefore h0_paper_diary_dayBefore h0_paper_diary_kept h0_paper_diary_latest h0_site_diary_deed h0_site_diary_whose h0_site_diary_before h0_site_diary_bucketsBefore h0_site_diary_dayBefore h0_site_diary_kept h0_site_diary_latest (f_h0_site_diary_deed) (f_h0_paper_diary_deed) (f_h0_site_diary_whose) (f_h0_paper_diary_whose) (f_h0_site_diary_before) (f_h0_paper_diary_before) (f_h0_site_diary_bucketsBefore) (f_h0_paper_diary_bucketsBefore) (f_h0_site_diary_dayBefore) (f_h0_paper_diary_dayBefore) h0_asker_stack h0_asker_world h0_asker_law h0_asker_cell h0_asker_shaft h0_asker_kind h0_asker_done h0_asker_latest h0_asker_value h0_drawnCrew_cell h0_drawnCrew_buckets h0_drawnCrew_count (f_h0_drawnCrew_cell) (f_h0_drawnCrew_buckets) (fun v => ∃ x ∈ txs, x.1 = v) xe _ (fun (r : Int32) (u : Int32 × Int32 × (Nat → Int32) × Int32 × Int32 × Int64 × (Nat → Int32) × (Nat → Int32) × (Nat → Int32) × Int32 × (Nat → Int32) × (Nat → Int32) × Int32 × Int32 × Int32 × Int32 × Int32 × (Nat → Int32) × (Nat → Int32) × (Nat → Int32) × (Nat → Int32) × (Nat → Int32) × (Nat → Int32) × (Nat → Int32) × (Nat → Int32) × (Nat → Int32) × (Nat → Option Nat) × Int32 × Int32 × (Nat → Int32) × (Nat → Int32) × (Nat → Int32) × (Nat → Int32) × (Nat → Int32) × Value × Value × Int32 × Int32 × Int32 × Int32 × (Nat → Int32) × (Nat → Int32)) => (0 ≤ u.2.2.2.1.toInt ∧ u.2.2.2.1.toInt ≤ 6) ∧ ((-1) ≤ u.2.2.2.2.1.toInt ∧ u.2.2.2.2.1.toInt ≤ 5) ∧ (KI u.2.2.2.2.2.2.1) ∧ (HA u.2.2.2.2.2.2.2.1) ∧ (WA u.2.2.2.2.2.2.2.2.1) ∧ (0 ≤ u.2.2.2.2.2.2.2.2.2.1.toInt ∧ u.2.2.2.2.2.2.2.2.2.1.toInt ≤ 6) ∧ (CE u.2.2.2.2.2.2.2.2.2.2.1) ∧ (BU u.2.2.2.2.2.2.2.2.2.2.2.1) ∧ (0 ≤ u.2.2.2.2.2.2.2.2.2.2.2.2.1.toInt ∧ u.2.2.2.2.2.2.2.2.2.2.2.2.1.toInt ≤ 5) ∧ (0 ≤ u.2.2.2.2.2.2.2.2.2.2.2.2.2.1.toInt ∧ u.2.2.2.2.2.2.2.2.2.2.2.2.2.1.toInt ≤ 6) ∧ (0 ≤ u.2.2.2.2.2.2.2.2.2.2.2.2.2.2.2.1.toInt ∧ u.2.2.2.2.2.2.2.2.2.2.2.2.2.2.2.1.toInt ≤ 8) ∧ (0 ≤ u.2.2.2.2.2.2.2.2.2.2.2.2.2.2.2.2.1.toInt ∧ u.2.2.2.2.2.2.2.2.2.2.2.2.2.2.2.2.1.toInt ≤ 10) ∧ (CO u.2.2.2.2.2.2.2.2.2.2.2.2.2.2.2.2.2.1) ∧ (EA u.2.2.2.2.2.2.2.2.2.2.2.2.2.2.2.2.2.2.1) ∧ (NC u.2.2.2.2.2.2.2.2.2.2.2.2.2.2.2.2.2.2.2.1) ∧ (NL u.2.2.2.2.2.2.2.2.2.2.2.2.2.2.2.2.2.2.2.2.1) ∧ (HC u.2.2.2.2.2.2.2.2.2.2.2.2.2.2.2.2.2.2.2.2.2.1) ∧ (HL u.2.2.2.2.2.2.2.2.2.2.2.2.2.2.2.2.2.2.2.2.2.2.1) ∧ (TE u.2.2.2.2.2.2.2.2.2.2.2.2.2.2.2.2.2.2.2.2.2.2.2.2.2.1) ∧ (0 ≤ u.2.2.2.2.2.2.2.2.2.2.2.2.2.2.2.2.2.2.2.2.2.2.2.2.2.2.2.1.toInt ∧ u.2.2.2.2.2.2.2.2.2.2.2.2.2.2.2.2.2.2.2.2.2.2.2.2.2.2.2.1.toInt ≤ 16) ∧ (0 ≤ u.2.2.2.2.2.2.2.2.2.2.2.2.2.2.2.2.2.2.2.2.2.2.2.2.2.2.2.2.1.toInt ∧ u.2.2.2.2.2.2.2.2.2.2.2.2.2.2.2.2.2.2.2.2.2.2.2.2.2.2.2.2.1.toInt ≤ 15) ∧ (0 ≤ u.2.2.2.2.2.2.2.2.2.2.2.2.2.2.2.2.2.2.2.2.2.2.2.2.2.2.2.2.2.2.2.2.2.2.2.2.1.toInt ∧ u.2.2.2.2.2.2.2.2.2.2.2.2.2.2.2.2.2.2.2.2.2.2.2.2.2.2.2.2.2.2.2.2.2.2.2.2.1.toInt ≤ 39) ∧ (0 ≤ u.2.2.2.2.2.2.2.2.2.2.2.2.2.2.2.2.2.2.2.2.2.2.2.2.2.2.2.2.2.2.2.2.2.2.2.2.2.2.2.1.toInt ∧ u.2.2.2.2.2.2.2.2.2.2.2.2.2.2.2.2.2.2.2.2.2.2.2.2.2.2.2.2.2.2.2.2.2.2.2.2.2.2.2.1.toInt ≤ 6) ∧ (CE u.2.2.2.2.2.2.2.2.2.2.2.2.2.2.2.2.2.2.2.2.2.2.2.2.2.2.2.2.2.2.2.2.2.2.2.2.2.2.2.2.1) ∧ (BU u.2.2.2.2.2.2.2.2.2.2.2.2.2.2.2.2.2.2.2.2.2.2.2.2.2.2.2.2.2.2.2.2.2.2.2.2.2.2.2.2.2) ∧ (u.2.1.toInt = tlS (seaB zw a.toInt b.toInt)) ∧ (RF u.2.2.1 (tlR zrf (seaB zw a.toInt b.toInt))) ∧ (RXn u.1 u.2.2.2.2.2.2.2.2.2.2.2.2.2.2.2.2.2.2.2.2.2.2.2.2.2.2.2.2.2.2.2.2.2.2.2.2.2.2.2.1 u.2.2.2.2.2.2.2.2.2.2.2.2.2.2.2.2.2.2.2.2.2.2.2.2.2.2.2.2.2.2.2.2.2.2.2.2.2.2.2.2.1 u.2.2.2.2.2.2.2.2.2.2.2.2.2.2.2.2.2.2.2.2.2.2.2.2.2.2.2.2.2.2.2.2.2.2.2.2.2.2.2.2.2 (seaD zD zl zw a.toInt b.toInt))) (s_X11_seasons_Nz (ls := zl) a b h0_drawnDay (f_h0_refusals) h0_site_world_lawCount h0_site_world_force h0_site_world_crew_count h0_paper_world h0_paper_world_lawCount h0_paper_world_force h0_paper_world_rock_dug h0_site_world_rock_dug (f_h0_site_world_rock_kind) (f_h0_paper_world_rock_kind) (f_h0_site_world_rock_hard) (f_h0_paper_world_rock_hard) (f_h0_site_world_rock_water) (f_h0_paper_world_rock_water) h0_paper_world_crew_count (f_h0_site_world_crew_cell) (f_h0_paper_world_crew_cell) (f_h0_site_world_crew_buckets) (f_h0_paper_world_crew_buckets) h0_paper_world_folk_listeners h0_paper_world_folk_noises h0_paper_world_folk_hushed h0_paper_world_folk_hearsay h0_paper_world_folk_wells h0_site_world_folk_listeners h0_site_world_folk_noises h0_site_world_folk_hushed h0_site_world_folk_hearsay h0_site_world_folk_wells (f_h0_site_world_folk_column) (f_h0_paper_world_folk_column) (f_h0_site_world_folk_ear) (f_h0_paper_world_folk_ear) (f_h0_site_world_folk_noiseColumn) (f_h0_paper_world_folk_noiseColumn) (f_h0_site_world_folk_noiseLoud) (f_h0_paper_world_folk_noiseLoud) (f_h0_site_world_folk_hearsayColumn) (f_h0_paper_world_folk_hearsayColumn) (f_h0_site_world_folk_hearsayLoud) (f_h0_paper_world_folk_hearsayLoud) (f_h0_site_world_folk_sounds) (f_h0_paper_world_folk_sounds) (f_h0_site_world_folk_wet) (f_h0_paper_world_folk_wet) (f_h0_paper_world_term) (f_h0_site_world_term) (f_h0_site_world_laws) (f_h0_paper_world_laws) h0_paper_diary_kept h0_paper_diary_latest h0_site_diary_kept h0_site_diary_latest (f_h0_site_diary_deed) (f_h0_paper_diary_deed) (f_h0_site_diary_whose) (f_h0_paper_diary_whose) (f_h0_site_diary_before) (f_h0_paper_diary_before) (f_h0_site_diary_bucketsBefore) (f_h0_paper_diary_bucketsBefore) (f_h0_site_diary_dayBefore) (f_h0_paper_diary_dayBefore) h0_asker_world h0_asker_law h0_asker_cell h0_asker_shaft h0_asker_kind h0_drawnCrew_count (f_h0_drawnCrew_cell) (f_h0_drawnCrew_buckets) (fun v => ∃ x ∈ txs, x.1 = v) i_h0_site_world_lawCount ⟨Int.le_of_eq hf1.symm, Int.le_of_eq hf1⟩ i_h0_site_world_crew_count i_h0_paper_world_lawCount i_h0_paper_world_force i_f_h0_site_world_rock_kind i_f_h0_paper_world_rock_kind i_f_h0_site_world_rock_hard i_f_h0_paper_world_rock_hard i_f_h0_site_world_rock_water i_f_h0_paper_world_rock_water i_h0_paper_world_crew_count i_f_h0_site_world_crew_cell i_f_h0_paper_world_crew_cell i_f_h0_site_world_crew_buckets i_f_h0_paper_world_crew_buckets i_h0_paper_world_folk_listeners i_h0_paper_world_folk_noises i_h0_paper_world_folk_hearsay i_h0_paper_world_folk_wells i_h0_site_world_folk_listeners i_h0_site_world_folk_noises i_h0_site_world_folk_hearsay i_h0_site_world_folk_wells i_f_h0_site_world_folk_column i_f_h0_paper_world_folk_column i_f_h0_site_world_folk_ear i_f_h0_paper_world_folk_ear i_f_h0_site_world_folk_noiseColumn i_f_h0_paper_world_folk_noiseColumn i_f_h0_site_world_folk_noiseLoud i_f_h0_paper_world_folk_noiseLoud i_f_h0_site_world_folk_hearsayColumn i_f_h0_paper_world_folk_hearsayColumn i_f_h0_site_world_folk_hearsayLoud i_f_h0_paper_world_folk_hearsayLoud i_f_h0_paper_world_term i_f_h0_site_world_term i_h0_paper_diary_kept i_h0_paper_diary_latest i_h0_site_diary_kept i_h0_site_diary_latest i_h0_asker_cell i_h0_drawnCrew_count i_f_h0_drawnCrew_cell i_f_h0_drawnCrew_buckets t_rx t_ru i_di t_rf i_lw_site.1 t_rn (fun r u_0 u_1 u_2 u_3 u_4 u_5 u_6 u_7 u_8 u_9 u_10 u_11 u_12 u_13 u_14 u_15 u_16 u_17 u_18 u_19 u_20 u_21 u_22 u_23 u_24 u_25 u_26 u_27 u_28 u_29 u_30 u_31 u_32 u_33 u_34 u_35 u_36 u_37 u_38 u_39 u_40 u_41 H9 => H9))) [0, 10, 2, 12, 37, 3, 14, 46, 36, 68, 81, 69, 82, 70, 83, 47, 71, 84, 72, 85, 48, 38, 73, 86, 74, 87, 75, 88, 76, 89, 77, 90, 78, 91, 79, 92, 80, 93, 49, 39, 40, 50, 15, 13, 41, 51, 42, 52, 43, 53, 44, 54, 45, 55, 1, 9, 34, 35] rfl rfl 0 11 rfl rfl (cV 2 htl lk_RL_177 mI_X11_seasons mS_X11_seasons mN_RX11 mC_X11_seasons ok_X11_seasons rfl rfl ⟨(Nat.le_of_ble_eq_true rfl), (Nat.le_of_ble_eq_true rfl)⟩) rfl hls rfl (Nat.le_of_ble_eq_true rfl) dL_law_1319 ⟨Nat.le_trans (Nat.add_le_add_right hf.1 _) (Nat.le_of_ble_eq_true rfl), Nat.le_trans (Nat.add_le_add_right hf.2 _) (Nat.le_of_ble_eq_true rfl)⟩) hP1 hD1 hS hA [0, 10, 2, 12, 37, 3, 14, 46, 36, 68, 81, 69, 82, 70, 83, 47, 71, 84, 72, 85, 48, 38, 73, 86, 74, 87, 75, 88, 76, 89, 77, 90, 78, 91, 79, 92, 80, 93, 49, 39, 40, 50, 15, 13, 41, 51, 42, 52, 43, 53, 44, 54, 45, 55, 1, 9, 34, 35] (cutW [0, 0, 0, 0, 5, 0, 1, 0, 0, 0, 18, 0, 0, 0, 0, 0, 0, 0, 0, 0, 0, 0, 0, 0, 0, 0, 0, 0, 0, 0, 0, 0, 12, 0, 0, 0, 0, 0, 0, 0, 0, 0, 0, 0, 0, 0, 0, 0, 0, 0, 0, 0, 0, 0, 0, 0, 0, 0] (List.range 120)) rfl (cutW_ok rfl rfl) (by decide +kernel) (by decide +kernel) (fun r u H1 locs1 h hP2 hD2 hS2 => ?_)
    obtain ⟨u_0, u_1, u_2, u_3, u_4, u_5, u_6, u_7, u_8, u_9, u_10, u_11, u_12, u_13, u_14, u_15, u_16, u_17, u_18, u_19, u_20, u_21, u_22, u_23, u_24, u_25, u_26, u_27, u_28, u_29, u_30, u_31, u_32, u_33, u_34, u_35, u_36, u_37, u_38, u_39, u_40, u_41⟩ := u
    have h : (0 ≤ u_3.toInt ∧ u_3.toInt ≤ 6) ∧ ((-1) ≤ u_4.toInt ∧ u_4.toInt ≤ 5) ∧ (KI u_6) ∧ (HA u_7) ∧ (WA u_8) ∧ (0 ≤ u_9.toInt ∧ u_9.toInt ≤ 6) ∧ (CE u_10) ∧ (BU u_11) ∧ (0 ≤ u_12.toInt ∧ u_12.toInt ≤ 5) ∧ (0 ≤ u_13.toInt ∧ u_13.toInt ≤ 6) ∧ (0 ≤ u_15.toInt ∧ u_15.toInt ≤ 8) ∧ (0 ≤ u_16.toInt ∧ u_16.toInt ≤ 10) ∧ (CO u_17) ∧ (EA u_18) ∧ (NC u_19) ∧ (NL u_20) ∧ (HC u_21) ∧ (HL u_22) ∧ (TE u_25) ∧ (0 ≤ u_27.toInt ∧ u_27.toInt ≤ 16) ∧ (0 ≤ u_28.toInt ∧ u_28.toInt ≤ 15) ∧ (0 ≤ u_36.toInt ∧ u_36.toInt ≤ 39) ∧ (0 ≤ u_39.toInt ∧ u_39.toInt ≤ 6) ∧ (CE u_40) ∧ (BU u_41) ∧ (u_1.toInt = tlS (seaB zw a.toInt b.toInt)) ∧ (RF u_2 (tlR zrf (seaB zw a.toInt b.toInt))) ∧ (RXn u_0 u_39 u_40 u_41 (seaD zD zl zw a.toInt b.toInt)) := h
    obtain ⟨j_0, j_1, j_2, j_3, j_4, j_5, j_6, j_7, j_8, j_9, j_10, j_11, j_12, j_13, j_14, j_15, j_16, j_17, j_18, j_19, j_20, j_21, j_22, j_23, j_24, j_25, j_26, j_27⟩ := h
    have hC2 := CXm cs h0 f_h0_kept h0_reader_length f_h0_reader_bytes zw zU zl zWI zLI zft zsp zmd (tlS (seaB zw a.toInt b.toInt)) (tlR zrf (seaB zw a.toInt b.toInt)) (seaD zD zl zw a.toInt b.toInt) h0_asker h0_site h0_paper h0_images h0_kept h0_reader h0_ways h0_ears h0_drawnCrew u_0 h0_latestMud h0_stoppedAt h0_refusals u_1 h0_asker_stack u_34 u_35 u_36 u_37 u_38 h0_asker_done h0_asker_latest h0_asker_value h0_site_world h0_site_diary h0_site_done h0_site_latest h0_paper_world h0_paper_diary h0_paper_done h0_paper_latest h0_reader_bytes h0_reader_tokens h0_reader_places h0_reader_tokenCount h0_reader_now h0_reader_parts h0_reader_asOrders h0_reader_faultPlace h0_reader_draft h0_ways_cost h0_ways_endsWay h0_ways_left h0_ways_path h0_ways_steps h0_ways_days h0_ways_told h0_ways_price h0_ways_fewest h0_ways_cellOfShaft h0_ways_chance h0_ears_said h0_ears_lost h0_ears_alike h0_drawnCrew_cell h0_drawnCrew_buckets u_39 u_2 f_h0_asker_stack h0_site_world_rock h0_site_world_crew h0_site_world_folk h0_site_world_term h0_site_world_laws h0_site_world_lawCount h0_site_world_force h0_site_diary_deed h0_site_diary_whose h0_site_diary_before h0_site_diary_bucketsBefore h0_site_diary_dayBefore h0_site_diary_kept h0_site_diary_latest h0_paper_world_rock h0_paper_world_crew h0_paper_world_folk h0_paper_world_term h0_paper_world_laws u_3 u_4 h0_paper_diary_deed h0_paper_diary_whose h0_paper_diary_before h0_paper_diary_bucketsBefore h0_paper_diary_dayBefore u_27 u_28 w0 w0_rock w0_crew w0_folk w0_term w0_laws w0_lawCount w0_force w1 w1_rock w1_crew w1_folk w1_term w1_laws w1_lawCount w1_force f_h0_reader_tokens f_h0_reader_places h0_reader_draft_heads h0_reader_draft_code h0_reader_draft_clauses h0_reader_draft_length f_h0_ways_cost f_h0_ways_endsWay f_h0_ways_left f_h0_ways_path f_h0_ways_told f_h0_ways_price f_h0_ways_fewest f_h0_ways_cellOfShaft f_h0_ways_chance f_h0_ears_said f_h0_ears_lost f_h0_ears_alike u_40 u_41 h0_site_world_rock_kind h0_site_world_rock_hard h0_site_world_rock_water h0_site_world_rock_dug h0_site_world_crew_cell h0_site_world_crew_buckets h0_site_world_crew_count h0_site_world_folk_column h0_site_world_folk_ear h0_site_world_folk_listeners h0_site_world_folk_noiseColumn h0_site_world_folk_noiseLoud h0_site_world_folk_noises h0_site_world_folk_hushed h0_site_world_folk_hearsayColumn h0_site_world_folk_hearsayLoud h0_site_world_folk_hearsay h0_site_world_folk_sounds h0_site_world_folk_wet h0_site_world_folk_wells f_h0_site_world_term f_h0_site_world_laws f_h0_site_diary_deed f_h0_site_diary_whose f_h0_site_diary_before f_h0_site_diary_bucketsBefore f_h0_site_diary_dayBefore h0_paper_world_rock_kind h0_paper_world_rock_hard h0_paper_world_rock_water u_5 h0_paper_world_crew_cell h0_paper_world_crew_buckets u_9 h0_paper_world_folk_column h0_paper_world_folk_ear u_12 h0_paper_world_folk_noiseColumn h0_paper_world_folk_noiseLoud u_13 u_14 h0_paper_world_folk_hearsayColumn h0_paper_world_folk_hearsayLoud u_15 h0_paper_world_folk_sounds h0_paper_world_folk_wet u_16 u_25 u_26 u_29 u_30 u_31 u_32 u_33 w0_rock_kind w0_rock_hard w0_rock_water w0_rock_dug w0_crew_cell w0_crew_buckets w0_crew_count w0_folk_column w0_folk_ear w0_folk_listeners w0_folk_noiseColumn w0_folk_noiseLoud w0_folk_noises w0_folk_hushed w0_folk_hearsayColumn w0_folk_hearsayLoud w0_folk_hearsay w0_folk_sounds w0_folk_wet w0_folk_wells f_w0_term f_w0_laws w1_rock_kind w1_rock_hard w1_rock_water w1_rock_dug w1_crew_cell w1_crew_buckets w1_crew_count w1_folk_column w1_folk_ear w1_folk_listeners w1_folk_noiseColumn w1_folk_noiseLoud w1_folk_noises w1_folk_hushed w1_folk_hearsayColumn w1_folk_hearsayLoud w1_folk_hearsay w1_folk_sounds w1_folk_wet w1_folk_wells f_w1_term f_w1_laws f_h0_reader_draft_heads f_h0_reader_draft_code f_h0_site_world_rock_kind f_h0_site_world_rock_hard f_h0_site_world_rock_water f_h0_site_world_crew_cell f_h0_site_world_crew_buckets f_h0_site_world_folk_column f_h0_site_world_folk_ear f_h0_site_world_folk_noiseColumn f_h0_site_world_folk_noiseLoud f_h0_site_world_folk_hearsayColumn f_h0_site_world_folk_hearsayLoud f_h0_site_world_folk_sounds f_h0_site_world_folk_wet u_6 u_7 u_8 u_10 u_11 u_17 u_18 u_19 u_20 u_21 u_22 u_23 u_24 f_w0_rock_kind f_w0_rock_hard f_w0_rock_water f_w0_crew_cell f_w0_crew_buckets f_w0_folk_column f_w0_folk_ear f_w0_folk_noiseColumn f_w0_folk_noiseLoud f_w0_folk_hearsayColumn f_w0_folk_hearsayLoud f_w0_folk_sounds f_w0_folk_wet f_w1_rock_kind f_w1_rock_hard f_w1_rock_water f_w1_crew_cell f_w1_crew_buckets f_w1_folk_column f_w1_folk_ear f_w1_folk_noiseColumn f_w1_folk_noiseLoud f_w1_folk_hearsayColumn f_w1_folk_hearsayLoud f_w1_folk_sounds f_w1_folk_wet txs j_21 i_h0_reader_length i_h0_reader_tokenCount i_h0_reader_asOrders i_h0_ways_steps i_h0_ways_days j_22 i_h0_site_world_lawCount i_h0_site_world_force i_h0_site_diary_kept i_h0_site_diary_latest j_0 j_1 j_19 j_20 i_w0_lawCount i_w0_force i_w1_lawCount i_w1_force i_f_h0_reader_bytes i_h0_reader_draft_clauses i_h0_reader_draft_length i_f_h0_ways_cost i_f_h0_ways_left i_f_h0_ways_told i_f_h0_ways_price i_f_h0_ways_fewest i_f_h0_ears_said i_f_h0_ears_lost j_23 j_24 i_h0_site_world_crew_count i_h0_site_world_folk_listeners i_h0_site_world_folk_noises i_h0_site_world_folk_hearsay i_h0_site_world_folk_wells i_f_h0_site_world_term j_5 j_8 j_9 j_10 j_11 j_18 i_w0_crew_count i_w0_folk_listeners i_w0_folk_noises i_w0_folk_hearsay i_w0_folk_wells i_f_w0_term i_w1_crew_count i_w1_folk_listeners i_w1_folk_noises i_w1_folk_hearsay i_w1_folk_wells i_f_w1_term i_f_h0_reader_draft_heads i_f_h0_reader_draft_code i_f_h0_site_world_rock_kind i_f_h0_site_world_rock_hard i_f_h0_site_world_rock_water i_f_h0_site_world_crew_cell i_f_h0_site_world_crew_buckets i_f_h0_site_world_folk_column i_f_h0_site_world_folk_ear i_f_h0_site_world_folk_noiseColumn i_f_h0_site_world_folk_noiseLoud i_f_h0_site_world_folk_hearsayColumn i_f_h0_site_world_folk_hearsayLoud j_2 j_3 j_4 j_6 j_7 j_12 j_13 j_14 j_15 j_16 j_17 i_f_w0_rock_kind i_f_w0_rock_hard i_f_w0_rock_water i_f_w0_crew_cell i_f_w0_crew_buckets i_f_w0_folk_column i_f_w0_folk_ear i_f_w0_folk_noiseColumn i_f_w0_folk_noiseLoud i_f_w0_folk_hearsayColumn i_f_w0_folk_hearsayLoud i_f_w1_rock_kind i_f_w1_rock_hard i_f_w1_rock_water i_f_w1_crew_cell i_f_w1_crew_buckets i_f_w1_folk_column i_f_w1_folk_ear i_f_w1_folk_noiseColumn i_f_w1_folk_noiseLoud i_f_w1_folk_hearsayColumn i_f_w1_folk_hearsayLoud i_di i_lw_site i_lw_w0 i_lw_w1 i_tx t_rx t_ru t_lw t_w0 t_l0 t_w1 t_l1 t_ft t_sp t_md j_25 j_26 j_27
    refine kk r _ H1 locs1 hC2 ?_ ?_ hS2
    · rw [List.append_assoc]; exact P_pick hP2 (is := [62, 116, 64, 67, 0, 1, 2, 3, 4, 117, 63, 5, 65, 105, 68, 104, 6, 7, 8, 9, 10, 11, 12, 13, 14, 15, 16, 17, 18, 19, 20, 21, 22, 23, 118, 119, 70, 66, 83, 101, 102, 106, 108, 110, 112, 114, 69, 77, 82, 100, 103, 107, 109, 111, 113, 115, 24, 25, 26, 27, 28, 29, 30, 31, 32, 33, 34, 35, 71, 73, 75, 78, 80, 84, 86, 88, 90, 92, 94, 96, 98, 72, 74, 76, 79, 81, 85, 87, 89, 91, 93, 95, 97, 99, 36, 37, 38, 39, 40, 41, 42, 43, 44, 45, 46, 47, 48, 49, 50, 51, 52, 53, 54, 55, 56, 57, 58, 59, 60, 61]) rfl
    · rw [List.append_assoc]; exact D_pick hD2 (is := [62, 116, 64, 67, 0, 1, 2, 3, 4, 117, 63, 5, 65, 105, 68, 104, 6, 7, 8, 9, 10, 11, 12, 13, 14, 15, 16, 17, 18, 19, 20, 21, 22, 23, 118, 119, 70, 66, 83, 101, 102, 106, 108, 110, 112, 114, 69, 77, 82, 100, 103, 107, 109, 111, 113, 115, 24, 25, 26, 27, 28, 29, 30, 31, 32, 33, 34, 35, 71, 73, 75, 78, 80, 84, 86, 88, 90, 92, 94, 96, 98, 72, 74, 76, 79, 81, 85, 87, 89, 91, 93, 95, 97, 99, 36, 37, 38, 39, 40, 41, 42, 43, 44, 45, 46, 47, 48, 49, 50, 51, 52, 53, 54, 55, 56, 57, 58, 59, 60, 61]) (by decide +kernel) rfl
  · subst etx
    obtain ⟨t, t_heads, t_code, t_clauses, t_length, n_t_heads, f_t_heads, n_t_code, f_t_code⟩ := tx
    obtain ⟨ok1, ok2, ok3, ok4, ok5⟩ := i_tx _ (List.mem_append_right _ List.mem_cons_self)
    replace hP1 := P_perm (pool_out cs _ _ ta _ tb) hP
    replace hD1 := D_perm (pool_out cs _ _ ta _ tb) hD
    refine miL (wr := [(h0_images, Sum.inl (cs 4, 2, Sum.inr (Sum.inr (Sum.inr (Sum.inr (va_up (va_up (fun _ => none) 0 (some w0)) 1 (some w1))))))), (h0_kept, Sum.inl (cs 2, 2, Sum.inl f_h0_kept)), (h0_reader, Sum.inr (5, [Value.ref h0_reader_bytes, Value.int h0_reader_length, Value.ref h0_reader_tokens, Value.ref h0_reader_places, Value.int h0_reader_tokenCount, Value.int h0_reader_now, Value.int h0_reader_parts, Value.int h0_reader_asOrders, Value.int h0_reader_faultPlace, Value.ref h0_reader_draft])), (h0_ways, Sum.inr (9, [Value.ref h0_ways_cost, Value.ref h0_ways_endsWay, Value.ref h0_ways_left, Value.ref h0_ways_path, Value.int h0_ways_steps, Value.int h0_ways_days, Value.ref h0_ways_told, Value.ref h0_ways_price, Value.ref h0_ways_fewest, Value.ref h0_ways_cellOfShaft, Value.ref h0_ways_chance])), (h0_ears, Sum.inr (3, [Value.ref h0_asker, Value.ref h0_ears_said, Value.ref h0_ears_lost, Value.ref h0_ears_alike])), (w0, Sum.inr (10, [Value.ref w0_rock, Value.ref w0_crew, Value.ref w0_folk, Value.ref w0_term, Value.ref w0_laws, Value.int w0_lawCount, Value.int w0_force])), (w1, Sum.inr (10, [Value.ref w1_rock, Value.ref w1_crew, Value.ref w1_folk, Value.ref w1_term, Value.ref w1_laws, Value.int w1_lawCount, Value.int w1_force])), (h0_reader_bytes, Sum.inl (cs 0, 400, Sum.inl f_h0_reader_bytes)), (h0_reader_tokens, Sum.inl (cs 0, 401, Sum.inl f_h0_reader_tokens)), (h0_reader_places, Sum.inl (cs 0, 401, Sum.inl f_h0_reader_places)), (h0_reader_draft, Sum.inr (8, [Value.ref h0_reader_draft_heads, Value.ref h0_reader_draft_code, Value.int h0_reader_draft_clauses, Value.int h0_reader_draft_length])), (h0_ways_cost, Sum.inl (cs 0, 40, Sum.inl f_h0_ways_cost)), (h0_ways_endsWay, Sum.inl (cs 2, 40, Sum.inl f_h0_ways_endsWay)), (h0_ways_left, Sum.inl (cs 0, 40, Sum.inl f_h0_ways_left)), (h0_ways_path, Sum.inl (cs 0, 40, Sum.inl f_h0_ways_path)), (h0_ways_told, Sum.inl (cs 0, 6, Sum.inl f_h0_ways_told)), (h0_ways_price, Sum.inl (cs 0, 36, Sum.inl f_h0_ways_price)), (h0_ways_fewest, Sum.inl (cs 0, 448, Sum.inl f_h0_ways_fewest)), (h0_ways_cellOfShaft, Sum.inl (cs 0, 6, Sum.inl f_h0_ways_cellOfShaft)), (h0_ways_chance, Sum.inl (cs 1, 201, Sum.inr (Sum.inl f_h0_ways_chance))), (h0_ears_said, Sum.inl (cs 0, 40, Sum.inl f_h0_ears_said)), (h0_ears_lost, Sum.inl (cs 0, 40, Sum.inl f_h0_ears_lost)), (h0_ears_alike, Sum.inl (cs 0, 100, Sum.inl f_h0_ears_alike)), (w0_rock, Sum.inr (6, [Value.ref w0_rock_kind, Value.ref w0_rock_hard, Value.ref w0_rock_water, Value.long w0_rock_dug])), (w0_crew, Sum.inr (1, [Value.ref w0_crew_cell, Value.ref w0_crew_buckets, Value.int w0_crew_count])), (w0_folk, Sum.inr (4, [Value.ref w0_folk_column, Value.ref w0_folk_ear, Value.int w0_folk_listeners, Value.ref w0_folk_noiseColumn, Value.ref w0_folk_noiseLoud, Value.int w0_folk_noises, Value.int w0_folk_hushed, Value.ref w0_folk_hearsayColumn, Value.ref w0_folk_hearsayLoud, Value.int w0_folk_hearsay, Value.ref w0_folk_sounds, Value.ref w0_folk_wet, Value.int w0_folk_wells])), (w0_term, Sum.inl (cs 0, 3, Sum.inl f_w0_term)), (w0_laws, Sum.inl (cs 3, 6, Sum.inr (Sum.inr (Sum.inr (Sum.inr f_w0_laws))))), (w1_rock, Sum.inr (6, [Value.ref w1_rock_kind, Value.ref w1_rock_hard, Value.ref w1_rock_water, Value.long w1_rock_dug])), (w1_crew, Sum.inr (1, [Value.ref w1_crew_cell, Value.ref w1_crew_buckets, Value.int w1_crew_count])), (w1_folk, Sum.inr (4, [Value.ref w1_folk_column, Value.ref w1_folk_ear, Value.int w1_folk_listeners, Value.ref w1_folk_noiseColumn, Value.ref w1_folk_noiseLoud, Value.int w1_folk_noises, Value.int w1_folk_hushed, Value.ref w1_folk_hearsayColumn, Value.ref w1_folk_hearsayLoud, Value.int w1_folk_hearsay, Value.ref w1_folk_sounds, Value.ref w1_folk_wet, Value.int w1_folk_wells])), (w1_term, Sum.inl (cs 0, 3, Sum.inl f_w1_term)), (w1_laws, Sum.inl (cs 3, 6, Sum.inr (Sum.inr (Sum.inr (Sum.inr f_w1_laws))))), (h0_reader_draft_heads, Sum.inl (cs 0, 60, Sum.inl f_h0_reader_draft_heads)), (h0_reader_draft_code, Sum.inl (cs 0, 400, Sum.inl f_h0_reader_draft_code)), (w0_rock_kind, Sum.inl (cs 0, 40, Sum.inl f_w0_rock_kind)), (w0_rock_hard, Sum.inl (cs 0, 40, Sum.inl f_w0_rock_hard)), (w0_rock_water, Sum.inl (cs 0, 40, Sum.inl f_w0_rock_water)), (w0_crew_cell, Sum.inl (cs 0, 6, Sum.inl f_w0_crew_cell)), (w0_crew_buckets, Sum.inl (cs 0, 6, Sum.inl f_w0_crew_buckets)), (w0_folk_column, Sum.inl (cs 0, 5, Sum.inl f_w0_folk_column)), (w0_folk_ear, Sum.inl (cs 0, 5, Sum.inl f_w0_folk_ear)), (w0_folk_noiseColumn, Sum.inl (cs 0, 6, Sum.inl f_w0_folk_noiseColumn)), (w0_folk_noiseLoud, Sum.inl (cs 0, 6, Sum.inl f_w0_folk_noiseLoud)), (w0_folk_hearsayColumn, Sum.inl (cs 0, 8, Sum.inl f_w0_folk_hearsayColumn)), (w0_folk_hearsayLoud, Sum.inl (cs 0, 8, Sum.inl f_w0_folk_hearsayLoud)), (w0_folk_sounds, Sum.inl (cs 0, 10, Sum.inl f_w0_folk_sounds)), (w0_folk_wet, Sum.inl (cs 0, 10, Sum.inl f_w0_folk_wet)), (w1_rock_kind, Sum.inl (cs 0, 40, Sum.inl f_w1_rock_kind)), (w1_rock_hard, Sum.inl (cs 0, 40, Sum.inl f_w1_rock_hard)), (w1_rock_water, Sum.inl (cs 0, 40, Sum.inl f_w1_rock_water)), (w1_crew_cell, Sum.inl (cs 0, 6, Sum.inl f_w1_crew_cell)), (w1_crew_buckets, Sum.inl (cs 0, 6, Sum.inl f_w1_crew_buckets)), (w1_folk_column, Sum.inl (cs 0, 5, Sum.inl f_w1_folk_column)), (w1_folk_ear, Sum.inl (cs 0, 5, Sum.inl f_w1_folk_ear)), (w1_folk_noiseColumn, Sum.inl (cs 0, 6, Sum.inl f_w1_folk_noiseColumn)), (w1_folk_noiseLoud, Sum.inl (cs 0, 6, Sum.inl f_w1_folk_noiseLoud)), (w1_folk_hearsayColumn, Sum.inl (cs 0, 8, Sum.inl f_w1_folk_hearsayColumn)), (w1_folk_hearsayLoud, Sum.inl (cs 0, 8, Sum.inl f_w1_folk_hearsayLoud)), (w1_folk_sounds, Sum.inl (cs 0, 10, Sum.inl f_w1_folk_sounds)), (w1_folk_wet, Sum.inl (cs 0, 10, Sum.inl f_w1_folk_wet))]) (mkVX (rest := []) ⟨hx, hb, hml, hown, htl⟩ hN hK (P_left hP1) (D_left hD1) (fun U hU hW => hZ.XT (cs := cs) hU hW hS (va_free (D_left hD1) hS hA [0, 10, 2, 12, 37, 3, 14, 46, 36, 68, 81, 69, 82, 70, 83, 47, 71, 84, 72, 85, 48, 38, 73, 86, 74, 87, 75, 88, 76, 89, 77, 90, 78, 91, 79, 92, 80, 93, 49, 39, 40, 50, 15, 13, 41, 51, 42, 52, 43, 53, 44, 54, 45, 55, 1, 120, 121, 122, 11, 9, 34, 35] rfl) (T_out hP1 hD1 (isC := [0, 10, 2, 12, 37, 3, 14, 46, 36, 68, 81, 69, 82, 70, 83, 47, 71, 84, 72, 85, 48, 38, 73, 86, 74, 87, 75, 88, 76, 89, 77, 90, 78, 91, 79, 92, 80, 93, 49, 39, 40, 50, 15, 13, 41, 51, 42, 52, 43, 53, 44, 54, 45, 55, 1, 120, 121, 122, 11, 9, 34, 35]) rfl)) (g_X11_seasons_T l G cs h0 a b h0_asker h0_site h0_paper h0_images h0_kept h0_reader h0_ways h0_ears h0_drawnCrew h0_drawnDay h0_latestMud h0_stoppedAt h0_refusals h0_latestRefusal (f_h0_refusals) h0_site_world h0_site_diary h0_site_done h0_site_latest h0_site_world_rock h0_site_world_crew h0_site_world_folk h0_site_world_term h0_site_world_laws h0_site_world_lawCount h0_site_world_force h0_site_world_crew_cell h0_site_world_crew_buckets h0_site_world_crew_count h0_paper_world h0_paper_diary h0_paper_done h0_paper_latest h0_paper_world_rock h0_paper_world_crew h0_paper_world_folk h0_paper_world_term h0_paper_world_laws h0_paper_world_lawCount h0_paper_world_force h0_paper_world_rock_kind h0_paper_world_rock_hard h0_paper_world_rock_water h0_paper_world_rock_dug h0_site_world_rock_kind h0_site_world_rock_hard h0_site_world_rock_water h0_site_world_rock_dug (f_h0_site_world_rock_kind) (f_h0_paper_world_rock_kind) (f_h0_site_world_rock_hard) (f_h0_paper_world_rock_hard) (f_h0_site_world_rock_water) (f_h0_paper_world_rock_water) h0_paper_world_crew_cell h0_paper_world_crew_buckets h0_paper_world_crew_count (f_h0_site_world_crew_cell) (f_h0_paper_world_crew_cell) (f_h0_site_world_crew_buckets) (f_h0_paper_world_crew_buckets) h0_paper_world_folk_column h0_paper_world_folk_ear h0_paper_world_folk_listeners h0_paper_world_folk_noiseColumn h0_paper_world_folk_noiseLoud h0_paper_world_folk_noises h0_paper_world_folk_hushed h0_paper_world_folk_hearsayColumn h0_paper_world_folk_hearsayLoud h0_paper_world_folk_hearsay h0_paper_world_folk_sounds h0_paper_world_folk_wet h0_paper_world_folk_wells h0_site_world_folk_column h0_site_world_folk_ear h0_site_world_folk_listeners h0_site_world_folk_noiseColumn h0_site_world_folk_noiseLoud h0_site_world_folk_noises h0_site_world_folk_hushed h0_site_world_folk_hearsayColumn h0_site_world_folk_hearsayLoud h0_site_world_folk_hearsay h0_site_world_folk_sounds h0_site_world_folk_wet h0_site_world_folk_wells (f_h0_site_world_folk_column) (f_h0_paper_world_folk_column) (f_h0_site_world_folk_ear) (f_h0_paper_world_folk_ear) (f_h0_site_world_folk_noiseColumn) (f_h0_paper_world_folk_noiseColumn) (f_h0_site_world_folk_noiseLoud) (f_h0_paper_world_folk_noiseLoud) (f_h0_site_world_folk_hearsayColumn) (f_h0_paper_world_folk_hearsayColumn) (f_h0_site_world_folk_hearsayLoud) (f_h0_paper_world_folk_hearsayLoud) (f_h0_site_world_folk_sounds) (f_h0_paper_world_folk_sounds) (f_h0_site_world_folk_wet) (f_h0_paper_world_folk_wet) (f_h0_paper_world_term) (f_h0_site_world_term) (f_h0_site_world_laws) (f_h0_paper_world_laws) h0_paper_diary_deed h0_paper_diary_whose h0_paper_diary_before h0_paper_diary_bucketsBefore h0_paper_diary_dayBefore h0_paper_diary_kept h0_paper_diary_latest h0_site_diary_deed h0_site_diary_whose h0_site_diary_before h0_site_diary_bucketsBefore h0_site_diary_dayBefore h0_site_diary_kept h0_site_diary_latest (f_h0_site_diary_deed) (f_h0_paper_diary_deed) (f_h0_site_diary_whose) (f_h0_paper_diary_whose) (f_h0_site_diary_before) (f_h0_paper_diary_before) (f_h0_site_diary_bucketsBefore) (f_h0_paper_diary_bucketsBefore) (f_h0_site_diary_dayBefore) (f_h0_paper_diary_dayBefore) h0_asker_stack h0_asker_world h0_asker_law h0_asker_cell h0_asker_shaft h0_asker_kind h0_asker_done h0_asker_latest h0_asker_value t t_heads t_code t_clauses t_length n_t_heads (f_t_heads) n_t_code (f_t_code) (f_h0_asker_stack) h0_drawnCrew_cell h0_drawnCrew_buckets h0_drawnCrew_count (f_h0_drawnCrew_cell) (f_h0_drawnCrew_buckets) (fun v => ∃ x ∈ ta ++ tb, x.1 = v) xe _ (fun (r : Int32) (u : Int32 × Int32 × (Nat → Int32) × Int32 × Int32 × Int64 × (Nat → Int32) × (Nat → Int32) × (Nat → Int32) × Int32 × (Nat → Int32) × (Nat → Int32) × Int32 × Int32 × Int32 × Int32 × Int32 × (Nat → Int32) × (Nat → Int32) × (Nat → Int32) × (Nat → Int32) × (Nat → Int32) × (Nat → Int32) × (Nat → Int32) × (Nat → Int32) × (Nat → Int32) × (Nat → Option Nat) × Int32 × Int32 × (Nat → Int32) × (Nat → Int32) × (Nat → Int32) × (Nat → Int32) × (Nat → Int32) × Value × Value × Int32 × Int32 × Int32 × Int32 × (Nat → Int64) × Int32 × (Nat → Int32) × (Nat → Int32)) => (0 ≤ u.2.2.2.1.toInt ∧ u.2.2.2.1.toInt ≤ 6) ∧ ((-1) ≤ u.2.2.2.2.1.toInt ∧ u.2.2.2.2.1.toInt ≤ 5) ∧ (KI u.2.2.2.2.2.2.1) ∧ (HA u.2.2.2.2.2.2.2.1) ∧ (WA u.2.2.2.2.2.2.2.2.1) ∧ (0 ≤ u.2.2.2.2.2.2.2.2.2.1.toInt ∧ u.2.2.2.2.2.2.2.2.2.1.toInt ≤ 6) ∧ (CE u.2.2.2.2.2.2.2.2.2.2.1) ∧ (BU u.2.2.2.2.2.2.2.2.2.2.2.1) ∧ (0 ≤ u.2.2.2.2.2.2.2.2.2.2.2.2.1.toInt ∧ u.2.2.2.2.2.2.2.2.2.2.2.2.1.toInt ≤ 5) ∧ (0 ≤ u.2.2.2.2.2.2.2.2.2.2.2.2.2.1.toInt ∧ u.2.2.2.2.2.2.2.2.2.2.2.2.2.1.toInt ≤ 6) ∧ (0 ≤ u.2.2.2.2.2.2.2.2.2.2.2.2.2.2.2.1.toInt ∧ u.2.2.2.2.2.2.2.2.2.2.2.2.2.2.2.1.toInt ≤ 8) ∧ (0 ≤ u.2.2.2.2.2.2.2.2.2.2.2.2.2.2.2.2.1.toInt ∧ u.2.2.2.2.2.2.2.2.2.2.2.2.2.2.2.2.1.toInt ≤ 10) ∧ (CO u.2.2.2.2.2.2.2.2.2.2.2.2.2.2.2.2.2.1) ∧ (EA u.2.2.2.2.2.2.2.2.2.2.2.2.2.2.2.2.2.2.1) ∧ (NC u.2.2.2.2.2.2.2.2.2.2.2.2.2.2.2.2.2.2.2.1) ∧ (NL u.2.2.2.2.2.2.2.2.2.2.2.2.2.2.2.2.2.2.2.2.1) ∧ (HC u.2.2.2.2.2.2.2.2.2.2.2.2.2.2.2.2.2.2.2.2.2.1) ∧ (HL u.2.2.2.2.2.2.2.2.2.2.2.2.2.2.2.2.2.2.2.2.2.2.1) ∧ (TE u.2.2.2.2.2.2.2.2.2.2.2.2.2.2.2.2.2.2.2.2.2.2.2.2.2.1) ∧ (0 ≤ u.2.2.2.2.2.2.2.2.2.2.2.2.2.2.2.2.2.2.2.2.2.2.2.2.2.2.2.1.toInt ∧ u.2.2.2.2.2.2.2.2.2.2.2.2.2.2.2.2.2.2.2.2.2.2.2.2.2.2.2.1.toInt ≤ 16) ∧ (0 ≤ u.2.2.2.2.2.2.2.2.2.2.2.2.2.2.2.2.2.2.2.2.2.2.2.2.2.2.2.2.1.toInt ∧ u.2.2.2.2.2.2.2.2.2.2.2.2.2.2.2.2.2.2.2.2.2.2.2.2.2.2.2.2.1.toInt ≤ 15) ∧ (0 ≤ u.2.2.2.2.2.2.2.2.2.2.2.2.2.2.2.2.2.2.2.2.2.2.2.2.2.2.2.2.2.2.2.2.2.2.2.2.1.toInt ∧ u.2.2.2.2.2.2.2.2.2.2.2.2.2.2.2.2.2.2.2.2.2.2.2.2.2.2.2.2.2.2.2.2.2.2.2.2.1.toInt ≤ 39) ∧ (0 ≤ u.2.2.2.2.2.2.2.2.2.2.2.2.2.2.2.2.2.2.2.2.2.2.2.2.2.2.2.2.2.2.2.2.2.2.2.2.2.2.2.2.2.1.toInt ∧ u.2.2.2.2.2.2.2.2.2.2.2.2.2.2.2.2.2.2.2.2.2.2.2.2.2.2.2.2.2.2.2.2.2.2.2.2.2.2.2.2.2.1.toInt ≤ 6) ∧ (CE u.2.2.2.2.2.2.2.2.2.2.2.2.2.2.2.2.2.2.2.2.2.2.2.2.2.2.2.2.2.2.2.2.2.2.2.2.2.2.2.2.2.2.1) ∧ (BU u.2.2.2.2.2.2.2.2.2.2.2.2.2.2.2.2.2.2.2.2.2.2.2.2.2.2.2.2.2.2.2.2.2.2.2.2.2.2.2.2.2.2.2) ∧ (u.2.1.toInt = tlS (seaB zw a.toInt b.toInt)) ∧ (RF u.2.2.1 (tlR zrf (seaB zw a.toInt b.toInt))) ∧ (RXn u.1 u.2.2.2.2.2.2.2.2.2.2.2.2.2.2.2.2.2.2.2.2.2.2.2.2.2.2.2.2.2.2.2.2.2.2.2.2.2.2.2.2.2.1 u.2.2.2.2.2.2.2.2.2.2.2.2.2.2.2.2.2.2.2.2.2.2.2.2.2.2.2.2.2.2.2.2.2.2.2.2.2.2.2.2.2.2.1 u.2.2.2.2.2.2.2.2.2.2.2.2.2.2.2.2.2.2.2.2.2.2.2.2.2.2.2.2.2.2.2.2.2.2.2.2.2.2.2.2.2.2.2 (seaD zD zl zw a.toInt b.toInt))) (s_X11_seasons_Tz a b h0_drawnDay (f_h0_refusals) h0_site_world_lawCount h0_site_world_force h0_site_world_crew_count h0_paper_world h0_paper_world_lawCount h0_paper_world_force h0_paper_world_rock_dug h0_site_world_rock_dug (f_h0_site_world_rock_kind) (f_h0_paper_world_rock_kind) (f_h0_site_world_rock_hard) (f_h0_paper_world_rock_hard) (f_h0_site_world_rock_water) (f_h0_paper_world_rock_water) h0_paper_world_crew_count (f_h0_site_world_crew_cell) (f_h0_paper_world_crew_cell) (f_h0_site_world_crew_buckets) (f_h0_paper_world_crew_buckets) h0_paper_world_folk_listeners h0_paper_world_folk_noises h0_paper_world_folk_hushed h0_paper_world_folk_hearsay h0_paper_world_folk_wells h0_site_world_folk_listeners h0_site_world_folk_noises h0_site_world_folk_hushed h0_site_world_folk_hearsay h0_site_world_folk_wells (f_h0_site_world_folk_column) (f_h0_paper_world_folk_column) (f_h0_site_world_folk_ear) (f_h0_paper_world_folk_ear) (f_h0_site_world_folk_noiseColumn) (f_h0_paper_world_folk_noiseColumn) (f_h0_site_world_folk_noiseLoud) (f_h0_paper_world_folk_noiseLoud) (f_h0_site_world_folk_hearsayColumn) (f_h0_paper_world_folk_hearsayColumn) (f_h0_site_world_folk_hearsayLoud) (f_h0_paper_world_folk_hearsayLoud) (f_h0_site_world_folk_sounds) (f_h0_paper_world_folk_sounds) (f_h0_site_world_folk_wet) (f_h0_paper_world_folk_wet) (f_h0_paper_world_term) (f_h0_site_world_term) (f_h0_site_world_laws) (f_h0_paper_world_laws) h0_paper_diary_kept h0_paper_diary_latest h0_site_diary_kept h0_site_diary_latest (f_h0_site_diary_deed) (f_h0_paper_diary_deed) (f_h0_site_diary_whose) (f_h0_paper_diary_whose) (f_h0_site_diary_before) (f_h0_paper_diary_before) (f_h0_site_diary_bucketsBefore) (f_h0_paper_diary_bucketsBefore) (f_h0_site_diary_dayBefore) (f_h0_paper_diary_dayBefore) h0_asker_world h0_asker_law h0_asker_cell h0_asker_shaft h0_asker_kind h0_asker_done h0_asker_latest h0_asker_value t t_clauses t_length n_t_heads (f_t_heads) n_t_code (f_t_code) (f_h0_asker_stack) h0_drawnCrew_count (f_h0_drawnCrew_cell) (f_h0_drawnCrew_buckets) (fun v => ∃ x ∈ ta ++ tb, x.1 = v) i_h0_site_world_lawCount ⟨hf0, hf5⟩ i_h0_site_world_crew_count i_h0_paper_world_lawCount i_h0_paper_world_force i_f_h0_site_world_rock_kind i_f_h0_paper_world_rock_kind i_f_h0_site_world_rock_hard i_f_h0_paper_world_rock_hard i_f_h0_site_world_rock_water i_f_h0_paper_world_rock_water i_h0_paper_world_crew_count i_f_h0_site_world_crew_cell i_f_h0_paper_world_crew_cell i_f_h0_site_world_crew_buckets i_f_h0_paper_world_crew_buckets i_h0_paper_world_folk_listeners i_h0_paper_world_folk_noises i_h0_paper_world_folk_hearsay i_h0_paper_world_folk_wells i_h0_site_world_folk_listeners i_h0_site_world_folk_noises i_h0_site_world_folk_hearsay i_h0_site_world_folk_wells i_f_h0_site_world_folk_column i_f_h0_paper_world_folk_column i_f_h0_site_world_folk_ear i_f_h0_paper_world_folk_ear i_f_h0_site_world_folk_noiseColumn i_f_h0_paper_world_folk_noiseColumn i_f_h0_site_world_folk_noiseLoud i_f_h0_paper_world_folk_noiseLoud i_f_h0_site_world_folk_hearsayColumn i_f_h0_paper_world_folk_hearsayColumn i_f_h0_site_world_folk_hearsayLoud i_f_h0_paper_world_folk_hearsayLoud i_f_h0_paper_world_term i_f_h0_site_world_term i_h0_paper_diary_kept i_h0_paper_diary_latest i_h0_site_diary_kept i_h0_site_diary_latest i_h0_asker_cell ok1 ok2 ok5 i_h0_drawnCrew_count i_f_h0_drawnCrew_cell i_f_h0_drawnCrew_buckets t_rx t_ru i_di t_rf hxt hok i_lw_site.oth ok3 ok4 i_lw_site.2.2.1 elaw t_rn (fun r u_0 u_1 u_2 u_3 u_4 u_5 u_6 u_7 u_8 u_9 u_10 u_11 u_12 u_13 u_14 u_15 u_16 u_17 u_18 u_19 u_20 u_21 u_22 u_23 u_24 u_25 u_26 u_27 u_28 u_29 u_30 u_31 u_32 u_33 u_34 u_35 u_36 u_37 u_38 u_39 u_40 u_41 u_42 u_43 H9 => H9))) [0, 10, 2, 12, 37, 3, 14, 46, 36, 68, 81, 69, 82, 70, 83, 47, 71, 84, 72, 85, 48, 38, 73, 86, 74, 87, 75, 88, 76, 89, 77, 90, 78, 91, 79, 92, 80, 93, 49, 39, 40, 50, 15, 13, 41, 51, 42, 52, 43, 53, 44, 54, 45, 55, 1, 120, 121, 122, 11, 9, 34, 35] rfl rfl 0 11 rfl rfl (cV 2 htl lk_RL_177 mI_X11_seasons mS_X11_seasons mN_RX11 mC_X11_seasons ok_X11_seasons rfl rfl ⟨(Nat.le_of_ble_eq_true rfl), (Nat.le_of_ble_eq_true rfl)⟩) rfl hls rfl (Nat.le_of_ble_eq_true rfl) dL_law_1319 ⟨Nat.le_trans (Nat.add_le_add_right hf.1 _) (Nat.le_of_ble_eq_true rfl), Nat.le_trans (Nat.add_le_add_right hf.2 _) (Nat.le_of_ble_eq_true rfl)⟩) hP1 hD1 hS hA [0, 10, 2, 12, 37, 3, 14, 46, 36, 68, 81, 69, 82, 70, 83, 47, 71, 84, 72, 85, 48, 38, 73, 86, 74, 87, 75, 88, 76, 89, 77, 90, 78, 91, 79, 92, 80, 93, 49, 39, 40, 50, 15, 13, 41, 51, 42, 52, 43, 53, 44, 54, 45, 55, 1, 120, 121, 122, 11, 9, 34, 35] (cutW [0, 0, 0, 0, 5, 0, 0, 0, 0, 0, 0, 18, 0, 0, 0, 0, 0, 0, 0, 0, 0, 0, 0, 0, 0, 0, 0, 0, 0, 0, 0, 0, 0, 12, 0, 0, 0, 0, 0, 0, 0, 0, 0, 0, 0, 0, 0, 0, 0, 0, 0, 0, 0, 0, 0, 0, 0, 0, 0, 26, 0, 0] (List.range 123)) rfl (cutW_ok rfl rfl) (by decide +kernel) (by decide +kernel) (fun r u H1 locs1 h hP2 hD2 hS2 => ?_)
    obtain ⟨u_0, u_1, u_2, u_3, u_4, u_5, u_6, u_7, u_8, u_9, u_10, u_11, u_12, u_13, u_14, u_15, u_16, u_17, u_18, u_19, u_20, u_21, u_22, u_23, u_24, u_25, u_26, u_27, u_28, u_29, u_30, u_31, u_32, u_33, u_34, u_35, u_36, u_37, u_38, u_39, u_40, u_41, u_42, u_43⟩ := u
    have h : (0 ≤ u_3.toInt ∧ u_3.toInt ≤ 6) ∧ ((-1) ≤ u_4.toInt ∧ u_4.toInt ≤ 5) ∧ (KI u_6) ∧ (HA u_7) ∧ (WA u_8) ∧ (0 ≤ u_9.toInt ∧ u_9.toInt ≤ 6) ∧ (CE u_10) ∧ (BU u_11) ∧ (0 ≤ u_12.toInt ∧ u_12.toInt ≤ 5) ∧ (0 ≤ u_13.toInt ∧ u_13.toInt ≤ 6) ∧ (0 ≤ u_15.toInt ∧ u_15.toInt ≤ 8) ∧ (0 ≤ u_16.toInt ∧ u_16.toInt ≤ 10) ∧ (CO u_17) ∧ (EA u_18) ∧ (NC u_19) ∧ (NL u_20) ∧ (HC u_21) ∧ (HL u_22) ∧ (TE u_25) ∧ (0 ≤ u_27.toInt ∧ u_27.toInt ≤ 16) ∧ (0 ≤ u_28.toInt ∧ u_28.toInt ≤ 15) ∧ (0 ≤ u_36.toInt ∧ u_36.toInt ≤ 39) ∧ (0 ≤ u_41.toInt ∧ u_41.toInt ≤ 6) ∧ (CE u_42) ∧ (BU u_43) ∧ (u_1.toInt = tlS (seaB zw a.toInt b.toInt)) ∧ (RF u_2 (tlR zrf (seaB zw a.toInt b.toInt))) ∧ (RXn u_0 u_41 u_42 u_43 (seaD zD zl zw a.toInt b.toInt)) := h
    obtain ⟨j_0, j_1, j_2, j_3, j_4, j_5, j_6, j_7, j_8, j_9, j_10, j_11, j_12, j_13, j_14, j_15, j_16, j_17, j_18, j_19, j_20, j_21, j_22, j_23, j_24, j_25, j_26, j_27⟩ := h
    have hC2 := CXm cs h0 f_h0_kept h0_reader_length f_h0_reader_bytes zw zU zl zWI zLI zft zsp zmd (tlS (seaB zw a.toInt b.toInt)) (tlR zrf (seaB zw a.toInt b.toInt)) (seaD zD zl zw a.toInt b.toInt) h0_asker h0_site h0_paper h0_images h0_kept h0_reader h0_ways h0_ears h0_drawnCrew u_0 h0_latestMud h0_stoppedAt h0_refusals u_1 h0_asker_stack u_34 u_35 u_36 u_37 u_38 h0_asker_done h0_asker_latest u_39 h0_site_world h0_site_diary h0_site_done h0_site_latest h0_paper_world h0_paper_diary h0_paper_done h0_paper_latest h0_reader_bytes h0_reader_tokens h0_reader_places h0_reader_tokenCount h0_reader_now h0_reader_parts h0_reader_asOrders h0_reader_faultPlace h0_reader_draft h0_ways_cost h0_ways_endsWay h0_ways_left h0_ways_path h0_ways_steps h0_ways_days h0_ways_told h0_ways_price h0_ways_fewest h0_ways_cellOfShaft h0_ways_chance h0_ears_said h0_ears_lost h0_ears_alike h0_drawnCrew_cell h0_drawnCrew_buckets u_41 u_2 u_40 h0_site_world_rock h0_site_world_crew h0_site_world_folk h0_site_world_term h0_site_world_laws h0_site_world_lawCount h0_site_world_force h0_site_diary_deed h0_site_diary_whose h0_site_diary_before h0_site_diary_bucketsBefore h0_site_diary_dayBefore h0_site_diary_kept h0_site_diary_latest h0_paper_world_rock h0_paper_world_crew h0_paper_world_folk h0_paper_world_term h0_paper_world_laws u_3 u_4 h0_paper_diary_deed h0_paper_diary_whose h0_paper_diary_before h0_paper_diary_bucketsBefore h0_paper_diary_dayBefore u_27 u_28 w0 w0_rock w0_crew w0_folk w0_term w0_laws w0_lawCount w0_force w1 w1_rock w1_crew w1_folk w1_term w1_laws w1_lawCount w1_force f_h0_reader_tokens f_h0_reader_places h0_reader_draft_heads h0_reader_draft_code h0_reader_draft_clauses h0_reader_draft_length f_h0_ways_cost f_h0_ways_endsWay f_h0_ways_left f_h0_ways_path f_h0_ways_told f_h0_ways_price f_h0_ways_fewest f_h0_ways_cellOfShaft f_h0_ways_chance f_h0_ears_said f_h0_ears_lost f_h0_ears_alike u_42 u_43 h0_site_world_rock_kind h0_site_world_rock_hard h0_site_world_rock_water h0_site_world_rock_dug h0_site_world_crew_cell h0_site_world_crew_buckets h0_site_world_crew_count h0_site_world_folk_column h0_site_world_folk_ear h0_site_world_folk_listeners h0_site_world_folk_noiseColumn h0_site_world_folk_noiseLoud h0_site_world_folk_noises h0_site_world_folk_hushed h0_site_world_folk_hearsayColumn h0_site_world_folk_hearsayLoud h0_site_world_folk_hearsay h0_site_world_folk_sounds h0_site_world_folk_wet h0_site_world_folk_wells f_h0_site_world_term f_h0_site_world_laws f_h0_site_diary_deed f_h0_site_diary_whose f_h0_site_diary_before f_h0_site_diary_bucketsBefore f_h0_site_diary_dayBefore h0_paper_world_rock_kind h0_paper_world_rock_hard h0_paper_world_rock_water u_5 h0_paper_world_crew_cell h0_paper_world_crew_buckets u_9 h0_paper_world_folk_column h0_paper_world_folk_ear u_12 h0_paper_world_folk_noiseColumn h0_paper_world_folk_noiseLoud u_13 u_14 h0_paper_world_folk_hearsayColumn h0_paper_world_folk_hearsayLoud u_15 h0_paper_world_folk_sounds h0_paper_world_folk_wet u_16 u_25 u_26 u_29 u_30 u_31 u_32 u_33 w0_rock_kind w0_rock_hard w0_rock_water w0_rock_dug w0_crew_cell w0_crew_buckets w0_crew_count w0_folk_column w0_folk_ear w0_folk_listeners w0_folk_noiseColumn w0_folk_noiseLoud w0_folk_noises w0_folk_hushed w0_folk_hearsayColumn w0_folk_hearsayLoud w0_folk_hearsay w0_folk_sounds w0_folk_wet w0_folk_wells f_w0_term f_w0_laws w1_rock_kind w1_rock_hard w1_rock_water w1_rock_dug w1_crew_cell w1_crew_buckets w1_crew_count w1_folk_column w1_folk_ear w1_folk_listeners w1_folk_noiseColumn w1_folk_noiseLoud w1_folk_noises w1_folk_hushed w1_folk_hearsayColumn w1_folk_hearsayLoud w1_folk_hearsay w1_folk_sounds w1_folk_wet w1_folk_wells f_w1_term f_w1_laws f_h0_reader_draft_heads f_h0_reader_draft_code f_h0_site_world_rock_kind f_h0_site_world_rock_hard f_h0_site_world_rock_water f_h0_site_world_crew_cell f_h0_site_world_crew_buckets f_h0_site_world_folk_column f_h0_site_world_folk_ear f_h0_site_world_folk_noiseColumn f_h0_site_world_folk_noiseLoud f_h0_site_world_folk_hearsayColumn f_h0_site_world_folk_hearsayLoud f_h0_site_world_folk_sounds f_h0_site_world_folk_wet u_6 u_7 u_8 u_10 u_11 u_17 u_18 u_19 u_20 u_21 u_22 u_23 u_24 f_w0_rock_kind f_w0_rock_hard f_w0_rock_water f_w0_crew_cell f_w0_crew_buckets f_w0_folk_column f_w0_folk_ear f_w0_folk_noiseColumn f_w0_folk_noiseLoud f_w0_folk_hearsayColumn f_w0_folk_hearsayLoud f_w0_folk_sounds f_w0_folk_wet f_w1_rock_kind f_w1_rock_hard f_w1_rock_water f_w1_crew_cell f_w1_crew_buckets f_w1_folk_column f_w1_folk_ear f_w1_folk_noiseColumn f_w1_folk_noiseLoud f_w1_folk_hearsayColumn f_w1_folk_hearsayLoud f_w1_folk_sounds f_w1_folk_wet (ta ++ (t, t_heads, t_code, t_clauses, t_length, n_t_heads, f_t_heads, n_t_code, f_t_code) :: tb) j_21 i_h0_reader_length i_h0_reader_tokenCount i_h0_reader_asOrders i_h0_ways_steps i_h0_ways_days j_22 i_h0_site_world_lawCount i_h0_site_world_force i_h0_site_diary_kept i_h0_site_diary_latest j_0 j_1 j_19 j_20 i_w0_lawCount i_w0_force i_w1_lawCount i_w1_force i_f_h0_reader_bytes i_h0_reader_draft_clauses i_h0_reader_draft_length i_f_h0_ways_cost i_f_h0_ways_left i_f_h0_ways_told i_f_h0_ways_price i_f_h0_ways_fewest i_f_h0_ears_said i_f_h0_ears_lost j_23 j_24 i_h0_site_world_crew_count i_h0_site_world_folk_listeners i_h0_site_world_folk_noises i_h0_site_world_folk_hearsay i_h0_site_world_folk_wells i_f_h0_site_world_term j_5 j_8 j_9 j_10 j_11 j_18 i_w0_crew_count i_w0_folk_listeners i_w0_folk_noises i_w0_folk_hearsay i_w0_folk_wells i_f_w0_term i_w1_crew_count i_w1_folk_listeners i_w1_folk_noises i_w1_folk_hearsay i_w1_folk_wells i_f_w1_term i_f_h0_reader_draft_heads i_f_h0_reader_draft_code i_f_h0_site_world_rock_kind i_f_h0_site_world_rock_hard i_f_h0_site_world_rock_water i_f_h0_site_world_crew_cell i_f_h0_site_world_crew_buckets i_f_h0_site_world_folk_column i_f_h0_site_world_folk_ear i_f_h0_site_world_folk_noiseColumn i_f_h0_site_world_folk_noiseLoud i_f_h0_site_world_folk_hearsayColumn i_f_h0_site_world_folk_hearsayLoud j_2 j_3 j_4 j_6 j_7 j_12 j_13 j_14 j_15 j_16 j_17 i_f_w0_rock_kind i_f_w0_rock_hard i_f_w0_rock_water i_f_w0_crew_cell i_f_w0_crew_buckets i_f_w0_folk_column i_f_w0_folk_ear i_f_w0_folk_noiseColumn i_f_w0_folk_noiseLoud i_f_w0_folk_hearsayColumn i_f_w0_folk_hearsayLoud i_f_w1_rock_kind i_f_w1_rock_hard i_f_w1_rock_water i_f_w1_crew_cell i_f_w1_crew_buckets i_f_w1_folk_column i_f_w1_folk_ear i_f_w1_folk_noiseColumn i_f_w1_folk_noiseLoud i_f_w1_folk_hearsayColumn i_f_w1_folk_hearsayLoud i_di i_lw_site i_lw_w0 i_lw_w1 i_tx t_rx t_ru t_lw t_w0 t_l0 t_w1 t_l1 t_ft t_sp t_md j_25 j_26 j_27
    exact kk r _ H1 locs1 hC2 (P_perm (pool_out cs _ _ ta _ tb).symm (P_pick hP2 (is := [61, 115, 63, 66, 0, 1, 2, 3, 4, 120, 62, 119, 64, 104, 67, 103, 5, 6, 7, 8, 9, 10, 11, 12, 13, 14, 15, 16, 17, 18, 19, 20, 21, 22, 121, 122, 69, 65, 82, 100, 101, 105, 107, 109, 111, 113, 68, 76, 81, 99, 102, 106, 108, 110, 112, 114, 23, 24, 25, 26, 27, 28, 29, 30, 31, 32, 33, 34, 70, 72, 74, 77, 79, 83, 85, 87, 89, 91, 93, 95, 97, 71, 73, 75, 78, 80, 84, 86, 88, 90, 92, 94, 96, 98, 35, 36, 37, 38, 39, 40, 41, 42, 43, 44, 45, 46, 47, 48, 49, 50, 51, 52, 53, 54, 55, 56, 57, 58, 59, 60, 116, 117, 118]) rfl)) (D_perm (pool_out cs _ _ ta _ tb).symm (D_pick hD2 (is := [61, 115, 63, 66, 0, 1, 2, 3, 4, 120, 62, 119, 64, 104, 67, 103, 5, 6, 7, 8, 9, 10, 11, 12, 13, 14, 15, 16, 17, 18, 19, 20, 21, 22, 121, 122, 69, 65, 82, 100, 101, 105, 107, 109, 111, 113, 68, 76, 81, 99, 102, 106, 108, 110, 112, 114, 23, 24, 25, 26, 27, 28, 29, 30, 31, 32, 33, 34, 70, 72, 74, 77, 79, 83, 85, 87, 89, 91, 93, 95, 97, 71, 73, 75, 78, 80, 84, 86, 88, 90, 92, 94, 96, 98, 35, 36, 37, 38, 39, 40, 41, 42, 43, 44, 45, 46, 47, 48, 49, 50, 51, 52, 53, 54, 55, 56, 57, 58, 59, 60, 116, 117, 118]) (by decide +kernel) rfl)) hS2
end
section
theorem dB_857 : (decode cL_law 224 = .ok (.aload_n 1, 1)) ∧ (decode cL_law 225 = .ok (.aload_n 0, 1)) ∧ (decode cL_law 226 = .ok (.iload_n 3, 1)) ∧ (decode cL_law 227 = .ok (.iconst 1, 1)) ∧ (decode cL_law 228 = .ok (.iadd, 1)) ∧ (decode cL_law 229 = .ok (.iaload, 1)) ∧ (decode cL_law 230 = .ok (.aload_n 0, 1)) ∧ (decode cL_law 231 = .ok (.iload_n 3, 1)) ∧ (decode cL_law 232 = .ok (.iconst 2, 1)) ∧ (decode cL_law 233 = .ok (.iadd, 1)) ∧ (decode cL_law 234 = .ok (.iaload, 1)) ∧ (decode cL_law 235 = .ok (.aload_n 0, 1)) ∧ (decode cL_law 236 = .ok (.iload_n 3, 1)) ∧ (decode cL_law 237 = .ok (.iconst 3, 1)) ∧ (decode cL_law 238 = .ok (.iadd, 1)) ∧ (decode cL_law 239 = .ok (.iaload, 1)) := by decide +kernel
theorem dL_law_224 : decode cL_law 224 = .ok (.aload_n 1, 1) := dB_857.1
theorem dL_law_225 : decode cL_law 225 = .ok (.aload_n 0, 1) := dB_857.2.1
theorem dL_law_226 : decode cL_law 226 = .ok (.iload_n 3, 1) := dB_857.2.2.1
theorem dL_law_227 : decode cL_law 227 = .ok (.iconst 1, 1) := dB_857.2.2.2.1
theorem dL_law_228 : decode cL_law 228 = .ok (.iadd, 1) := dB_857.2.2.2.2.1
theorem dL_law_229 : decode cL_law 229 = .ok (.iaload, 1) := dB_857.2.2.2.2.2.1
theorem dL_law_230 : decode cL_law 230 = .ok (.aload_n 0, 1) := dB_857.2.2.2.2.2.2.1
theorem dL_law_231 : decode cL_law 231 = .ok (.iload_n 3, 1) := dB_857.2.2.2.2.2.2.2.1
theorem dL_law_232 : decode cL_law 232 = .ok (.iconst 2, 1) := dB_857.2.2.2.2.2.2.2.2.1
theorem dL_law_233 : decode cL_law 233 = .ok (.iadd, 1) := dB_857.2.2.2.2.2.2.2.2.2.1
theorem dL_law_234 : decode cL_law 234 = .ok (.iaload, 1) := dB_857.2.2.2.2.2.2.2.2.2.2.1
theorem dL_law_235 : decode cL_law 235 = .ok (.aload_n 0, 1) := dB_857.2.2.2.2.2.2.2.2.2.2.2.1
theorem dL_law_236 : decode cL_law 236 = .ok (.iload_n 3, 1) := dB_857.2.2.2.2.2.2.2.2.2.2.2.2.1
theorem dL_law_237 : decode cL_law 237 = .ok (.iconst 3, 1) := dB_857.2.2.2.2.2.2.2.2.2.2.2.2.2.1
theorem dL_law_238 : decode cL_law 238 = .ok (.iadd, 1) := dB_857.2.2.2.2.2.2.2.2.2.2.2.2.2.2.1
theorem dL_law_239 : decode cL_law 239 = .ok (.iaload, 1) := dB_857.2.2.2.2.2.2.2.2.2.2.2.2.2.2.2
theorem dB_858 : (decode cL_law 243 = .ok (.pop, 1)) ∧ (decode cL_law 244 = .ok (.aload_n 2, 1)) ∧ (decode cL_law 245 = .ok (.aload_n 0, 1)) ∧ (decode cL_law 246 = .ok (.iload_n 3, 1)) ∧ (decode cL_law 247 = .ok (.iconst 1, 1)) ∧ (decode cL_law 248 = .ok (.iadd, 1)) ∧ (decode cL_law 249 = .ok (.iaload, 1)) ∧ (decode cL_law 250 = .ok (.aload_n 0, 1)) ∧ (decode cL_law 251 = .ok (.iload_n 3, 1)) ∧ (decode cL_law 252 = .ok (.iconst 2, 1)) ∧ (decode cL_law 253 = .ok (.iadd, 1)) ∧ (decode cL_law 254 = .ok (.iaload, 1)) ∧ (decode cL_law 255 = .ok (.aload_n 0, 1)) ∧ (decode cL_law 256 = .ok (.iload_n 3, 1)) ∧ (decode cL_law 257 = .ok (.iconst 3, 1)) ∧ (decode cL_law 258 = .ok (.iadd, 1)) := by decide +kernel
theorem dL_law_243 : decode cL_law 243 = .ok (.pop, 1) := dB_858.1
theorem dL_law_244 : decode cL_law 244 = .ok (.aload_n 2, 1) := dB_858.2.1
theorem dL_law_245 : decode cL_law 245 = .ok (.aload_n 0, 1) := dB_858.2.2.1
theorem dL_law_246 : decode cL_law 246 = .ok (.iload_n 3, 1) := dB_858.2.2.2.1
theorem dL_law_247 : decode cL_law 247 = .ok (.iconst 1, 1) := dB_858.2.2.2.2.1
theorem dL_law_248 : decode cL_law 248 = .ok (.iadd, 1) := dB_858.2.2.2.2.2.1
theorem dL_law_249 : decode cL_law 249 = .ok (.iaload, 1) := dB_858.2.2.2.2.2.2.1
theorem dL_law_250 : decode cL_law 250 = .ok (.aload_n 0, 1) := dB_858.2.2.2.2.2.2.2.1
theorem dL_law_251 : decode cL_law 251 = .ok (.iload_n 3, 1) := dB_858.2.2.2.2.2.2.2.2.1
theorem dL_law_252 : decode cL_law 252 = .ok (.iconst 2, 1) := dB_858.2.2.2.2.2.2.2.2.2.1
theorem dL_law_253 : decode cL_law 253 = .ok (.iadd, 1) := dB_858.2.2.2.2.2.2.2.2.2.2.1
theorem dL_law_254 : decode cL_law 254 = .ok (.iaload, 1) := dB_858.2.2.2.2.2.2.2.2.2.2.2.1
theorem dL_law_255 : decode cL_law 255 = .ok (.aload_n 0, 1) := dB_858.2.2.2.2.2.2.2.2.2.2.2.2.1
theorem dL_law_256 : decode cL_law 256 = .ok (.iload_n 3, 1) := dB_858.2.2.2.2.2.2.2.2.2.2.2.2.2.1
theorem dL_law_257 : decode cL_law 257 = .ok (.iconst 3, 1) := dB_858.2.2.2.2.2.2.2.2.2.2.2.2.2.2.1
theorem dL_law_258 : decode cL_law 258 = .ok (.iadd, 1) := dB_858.2.2.2.2.2.2.2.2.2.2.2.2.2.2.2
theorem dB_859 : (decode cL_law 259 = .ok (.iaload, 1)) ∧ (decode cL_law 263 = .ok (.pop, 1)) ∧ (decode cL_law 264 = .ok (.goto 1192, 3)) ∧ (decode cL_law 267 = .ok (.aload_n 1, 1)) ∧ (decode cL_law 268 = .ok (.aload_n 0, 1)) ∧ (decode cL_law 269 = .ok (.iload_n 3, 1)) ∧ (decode cL_law 270 = .ok (.iconst 1, 1)) ∧ (decode cL_law 271 = .ok (.iadd, 1)) ∧ (decode cL_law 272 = .ok (.iaload, 1)) ∧ (decode cL_law 273 = .ok (.aload_n 0, 1)) ∧ (decode cL_law 274 = .ok (.iload_n 3, 1)) ∧ (decode cL_law 275 = .ok (.iconst 2, 1)) ∧ (decode cL_law 276 = .ok (.iadd, 1)) ∧ (decode cL_law 277 = .ok (.iaload, 1)) ∧ (decode cL_law 281 = .ok (.pop, 1)) ∧ (decode cL_law 282 = .ok (.aload_n 2, 1)) := by decide +kernel
theorem dL_law_259 : decode cL_law 259 = .ok (.iaload, 1) := dB_859.1
theorem dL_law_263 : decode cL_law 263 = .ok (.pop, 1) := dB_859.2.1
theorem dL_law_264 : decode cL_law 264 = .ok (.goto 1192, 3) := dB_859.2.2.1
theorem dL_law_267 : decode cL_law 267 = .ok (.aload_n 1, 1) := dB_859.2.2.2.1
theorem dL_law_268 : decode cL_law 268 = .ok (.aload_n 0, 1) := dB_859.2.2.2.2.1
theorem dL_law_269 : decode cL_law 269 = .ok (.iload_n 3, 1) := dB_859.2.2.2.2.2.1
theorem dL_law_270 : decode cL_law 270 = .ok (.iconst 1, 1) := dB_859.2.2.2.2.2.2.1
theorem dL_law_271 : decode cL_law 271 = .ok (.iadd, 1) := dB_859.2.2.2.2.2.2.2.1
theorem dL_law_272 : decode cL_law 272 = .ok (.iaload, 1) := dB_859.2.2.2.2.2.2.2.2.1
theorem dL_law_273 : decode cL_law 273 = .ok (.aload_n 0, 1) := dB_859.2.2.2.2.2.2.2.2.2.1
theorem dL_law_274 : decode cL_law 274 = .ok (.iload_n 3, 1) := dB_859.2.2.2.2.2.2.2.2.2.2.1
theorem dL_law_275 : decode cL_law 275 = .ok (.iconst 2, 1) := dB_859.2.2.2.2.2.2.2.2.2.2.2.1
theorem dL_law_276 : decode cL_law 276 = .ok (.iadd, 1) := dB_859.2.2.2.2.2.2.2.2.2.2.2.2.1
theorem dL_law_277 : decode cL_law 277 = .ok (.iaload, 1) := dB_859.2.2.2.2.2.2.2.2.2.2.2.2.2.1
theorem dL_law_281 : decode cL_law 281 = .ok (.pop, 1) := dB_859.2.2.2.2.2.2.2.2.2.2.2.2.2.2.1
theorem dL_law_282 : decode cL_law 282 = .ok (.aload_n 2, 1) := dB_859.2.2.2.2.2.2.2.2.2.2.2.2.2.2.2
theorem dB_860 : (decode cL_law 283 = .ok (.aload_n 0, 1)) ∧ (decode cL_law 284 = .ok (.iload_n 3, 1)) ∧ (decode cL_law 285 = .ok (.iconst 1, 1)) ∧ (decode cL_law 286 = .ok (.iadd, 1)) ∧ (decode cL_law 287 = .ok (.iaload, 1)) ∧ (decode cL_law 288 = .ok (.aload_n 0, 1)) ∧ (decode cL_law 289 = .ok (.iload_n 3, 1)) ∧ (decode cL_law 290 = .ok (.iconst 2, 1)) ∧ (decode cL_law 291 = .ok (.iadd, 1)) ∧ (decode cL_law 292 = .ok (.iaload, 1)) ∧ (decode cL_law 296 = .ok (.pop, 1)) ∧ (decode cL_law 297 = .ok (.goto 1159, 3)) ∧ (decode cL_law 300 = .ok (.aload_n 1, 1)) ∧ (decode cL_law 301 = .ok (.aload_n 0, 1)) ∧ (decode cL_law 302 = .ok (.iload_n 3, 1)) ∧ (decode cL_law 303 = .ok (.iconst 1, 1)) := by decide +kernel
theorem dL_law_283 : decode cL_law 283 = .ok (.aload_n 0, 1) := dB_860.1
theorem dL_law_284 : decode cL_law 284 = .ok (.iload_n 3, 1) := dB_860.2.1
theorem dL_law_285 : decode cL_law 285 = .ok (.iconst 1, 1) := dB_860.2.2.1
theorem dL_law_286 : decode cL_law 286 = .ok (.iadd, 1) := dB_860.2.2.2.1
theorem dL_law_287 : decode cL_law 287 = .ok (.iaload, 1) := dB_860.2.2.2.2.1
theorem dL_law_288 : decode cL_law 288 = .ok (.aload_n 0, 1) := dB_860.2.2.2.2.2.1
theorem dL_law_289 : decode cL_law 289 = .ok (.iload_n 3, 1) := dB_860.2.2.2.2.2.2.1
theorem dL_law_290 : decode cL_law 290 = .ok (.iconst 2, 1) := dB_860.2.2.2.2.2.2.2.1
theorem dL_law_291 : decode cL_law 291 = .ok (.iadd, 1) := dB_860.2.2.2.2.2.2.2.2.1
theorem dL_law_292 : decode cL_law 292 = .ok (.iaload, 1) := dB_860.2.2.2.2.2.2.2.2.2.1
theorem dL_law_296 : decode cL_law 296 = .ok (.pop, 1) := dB_860.2.2.2.2.2.2.2.2.2.2.1
theorem dL_law_297 : decode cL_law 297 = .ok (.goto 1159, 3) := dB_860.2.2.2.2.2.2.2.2.2.2.2.1
theorem dL_law_300 : decode cL_law 300 = .ok (.aload_n 1, 1) := dB_860.2.2.2.2.2.2.2.2.2.2.2.2.1
theorem dL_law_301 : decode cL_law 301 = .ok (.aload_n 0, 1) := dB_860.2.2.2.2.2.2.2.2.2.2.2.2.2.1
theorem dL_law_302 : decode cL_law 302 = .ok (.iload_n 3, 1) := dB_860.2.2.2.2.2.2.2.2.2.2.2.2.2.2.1
theorem dL_law_303 : decode cL_law 303 = .ok (.iconst 1, 1) := dB_860.2.2.2.2.2.2.2.2.2.2.2.2.2.2.2
theorem dB_861 : (decode cL_law 304 = .ok (.iadd, 1)) ∧ (decode cL_law 305 = .ok (.iaload, 1)) ∧ (decode cL_law 309 = .ok (.pop, 1)) ∧ (decode cL_law 310 = .ok (.aload_n 2, 1)) ∧ (decode cL_law 311 = .ok (.aload_n 0, 1)) ∧ (decode cL_law 312 = .ok (.iload_n 3, 1)) ∧ (decode cL_law 313 = .ok (.iconst 1, 1)) ∧ (decode cL_law 314 = .ok (.iadd, 1)) ∧ (decode cL_law 315 = .ok (.iaload, 1)) ∧ (decode cL_law 319 = .ok (.pop, 1)) ∧ (decode cL_law 320 = .ok (.goto 1136, 3)) ∧ (decode cL_law 323 = .ok (.aload_n 1, 1)) ∧ (decode cL_law 324 = .ok (.aload_n 0, 1)) ∧ (decode cL_law 325 = .ok (.iload_n 3, 1)) ∧ (decode cL_law 326 = .ok (.iconst 1, 1)) ∧ (decode cL_law 327 = .ok (.iadd, 1)) := by decide +kernel
theorem dL_law_304 : decode cL_law 304 = .ok (.iadd, 1) := dB_861.1
theorem dL_law_305 : decode cL_law 305 = .ok (.iaload, 1) := dB_861.2.1
theorem dL_law_309 : decode cL_law 309 = .ok (.pop, 1) := dB_861.2.2.1
theorem dL_law_310 : decode cL_law 310 = .ok (.aload_n 2, 1) := dB_861.2.2.2.1
theorem dL_law_311 : decode cL_law 311 = .ok (.aload_n 0, 1) := dB_861.2.2.2.2.1
theorem dL_law_312 : decode cL_law 312 = .ok (.iload_n 3, 1) := dB_861.2.2.2.2.2.1
theorem dL_law_313 : decode cL_law 313 = .ok (.iconst 1, 1) := dB_861.2.2.2.2.2.2.1
theorem dL_law_314 : decode cL_law 314 = .ok (.iadd, 1) := dB_861.2.2.2.2.2.2.2.1
theorem dL_law_315 : decode cL_law 315 = .ok (.iaload, 1) := dB_861.2.2.2.2.2.2.2.2.1
theorem dL_law_319 : decode cL_law 319 = .ok (.pop, 1) := dB_861.2.2.2.2.2.2.2.2.2.1
theorem dL_law_320 : decode cL_law 320 = .ok (.goto 1136, 3) := dB_861.2.2.2.2.2.2.2.2.2.2.1
theorem dL_law_323 : decode cL_law 323 = .ok (.aload_n 1, 1) := dB_861.2.2.2.2.2.2.2.2.2.2.2.1
theorem dL_law_324 : decode cL_law 324 = .ok (.aload_n 0, 1) := dB_861.2.2.2.2.2.2.2.2.2.2.2.2.1
theorem dL_law_325 : decode cL_law 325 = .ok (.iload_n 3, 1) := dB_861.2.2.2.2.2.2.2.2.2.2.2.2.2.1
theorem dL_law_326 : decode cL_law 326 = .ok (.iconst 1, 1) := dB_861.2.2.2.2.2.2.2.2.2.2.2.2.2.2.1
theorem dL_law_327 : decode cL_law 327 = .ok (.iadd, 1) := dB_861.2.2.2.2.2.2.2.2.2.2.2.2.2.2.2
theorem dB_862 : (decode cL_law 328 = .ok (.iaload, 1)) ∧ (decode cL_law 329 = .ok (.aload_n 0, 1)) ∧ (decode cL_law 330 = .ok (.iload_n 3, 1)) ∧ (decode cL_law 331 = .ok (.iconst 2, 1)) ∧ (decode cL_law 332 = .ok (.iadd, 1)) ∧ (decode cL_law 333 = .ok (.iaload, 1)) ∧ (decode cL_law 337 = .ok (.pop, 1)) ∧ (decode cL_law 338 = .ok (.aload_n 2, 1)) ∧ (decode cL_law 339 = .ok (.aload_n 0, 1)) ∧ (decode cL_law 340 = .ok (.iload_n 3, 1)) ∧ (decode cL_law 341 = .ok (.iconst 1, 1)) ∧ (decode cL_law 342 = .ok (.iadd, 1)) ∧ (decode cL_law 343 = .ok (.iaload, 1)) ∧ (decode cL_law 344 = .ok (.aload_n 0, 1)) ∧ (decode cL_law 345 = .ok (.iload_n 3, 1)) ∧ (decode cL_law 346 = .ok (.iconst 2, 1)) := by decide +kernel
theorem dL_law_328 : decode cL_law 328 = .ok (.iaload, 1) := dB_862.1
theorem dL_law_329 : decode cL_law 329 = .ok (.aload_n 0, 1) := dB_862.2.1
theorem dL_law_330 : decode cL_law 330 = .ok (.iload_n 3, 1) := dB_862.2.2.1
theorem dL_law_331 : decode cL_law 331 = .ok (.iconst 2, 1) := dB_862.2.2.2.1
theorem dL_law_332 : decode cL_law 332 = .ok (.iadd, 1) := dB_862.2.2.2.2.1
theorem dL_law_333 : decode cL_law 333 = .ok (.iaload, 1) := dB_862.2.2.2.2.2.1
theorem dL_law_337 : decode cL_law 337 = .ok (.pop, 1) := dB_862.2.2.2.2.2.2.1
theorem dL_law_338 : decode cL_law 338 = .ok (.aload_n 2, 1) := dB_862.2.2.2.2.2.2.2.1
theorem dL_law_339 : decode cL_law 339 = .ok (.aload_n 0, 1) := dB_862.2.2.2.2.2.2.2.2.1
theorem dL_law_340 : decode cL_law 340 = .ok (.iload_n 3, 1) := dB_862.2.2.2.2.2.2.2.2.2.1
theorem dL_law_341 : decode cL_law 341 = .ok (.iconst 1, 1) := dB_862.2.2.2.2.2.2.2.2.2.2.1
theorem dL_law_342 : decode cL_law 342 = .ok (.iadd, 1) := dB_862.2.2.2.2.2.2.2.2.2.2.2.1
theorem dL_law_343 : decode cL_law 343 = .ok (.iaload, 1) := dB_862.2.2.2.2.2.2.2.2.2.2.2.2.1
theorem dL_law_344 : decode cL_law 344 = .ok (.aload_n 0, 1) := dB_862.2.2.2.2.2.2.2.2.2.2.2.2.2.1
theorem dL_law_345 : decode cL_law 345 = .ok (.iload_n 3, 1) := dB_862.2.2.2.2.2.2.2.2.2.2.2.2.2.2.1
theorem dL_law_346 : decode cL_law 346 = .ok (.iconst 2, 1) := dB_862.2.2.2.2.2.2.2.2.2.2.2.2.2.2.2
theorem dB_863 : (decode cL_law 347 = .ok (.iadd, 1)) ∧ (decode cL_law 348 = .ok (.iaload, 1)) ∧ (decode cL_law 352 = .ok (.pop, 1)) ∧ (decode cL_law 353 = .ok (.goto 1103, 3)) ∧ (decode cL_law 356 = .ok (.aload_n 1, 1)) ∧ (decode cL_law 357 = .ok (.aload_n 0, 1)) ∧ (decode cL_law 358 = .ok (.iload_n 3, 1)) ∧ (decode cL_law 359 = .ok (.iconst 1, 1)) ∧ (decode cL_law 360 = .ok (.iadd, 1)) ∧ (decode cL_law 361 = .ok (.iaload, 1)) ∧ (decode cL_law 362 = .ok (.aload_n 0, 1)) ∧ (decode cL_law 363 = .ok (.iload_n 3, 1)) ∧ (decode cL_law 364 = .ok (.iconst 2, 1)) ∧ (decode cL_law 365 = .ok (.iadd, 1)) ∧ (decode cL_law 366 = .ok (.iaload, 1)) ∧ (decode cL_law 370 = .ok (.pop, 1)) := by decide +kernel
theorem dL_law_347 : decode cL_law 347 = .ok (.iadd, 1) := dB_863.1
theorem dL_law_348 : decode cL_law 348 = .ok (.iaload, 1) := dB_863.2.1
theorem dL_law_352 : decode cL_law 352 = .ok (.pop, 1) := dB_863.2.2.1
theorem dL_law_353 : decode cL_law 353 = .ok (.goto 1103, 3) := dB_863.2.2.2.1
theorem dL_law_356 : decode cL_law 356 = .ok (.aload_n 1, 1) := dB_863.2.2.2.2.1
theorem dL_law_357 : decode cL_law 357 = .ok (.aload_n 0, 1) := dB_863.2.2.2.2.2.1
theorem dL_law_358 : decode cL_law 358 = .ok (.iload_n 3, 1) := dB_863.2.2.2.2.2.2.1
theorem dL_law_359 : decode cL_law 359 = .ok (.iconst 1, 1) := dB_863.2.2.2.2.2.2.2.1
theorem dL_law_360 : decode cL_law 360 = .ok (.iadd, 1) := dB_863.2.2.2.2.2.2.2.2.1
theorem dL_law_361 : decode cL_law 361 = .ok (.iaload, 1) := dB_863.2.2.2.2.2.2.2.2.2.1
theorem dL_law_362 : decode cL_law 362 = .ok (.aload_n 0, 1) := dB_863.2.2.2.2.2.2.2.2.2.2.1
theorem dL_law_363 : decode cL_law 363 = .ok (.iload_n 3, 1) := dB_863.2.2.2.2.2.2.2.2.2.2.2.1
theorem dL_law_364 : decode cL_law 364 = .ok (.iconst 2, 1) := dB_863.2.2.2.2.2.2.2.2.2.2.2.2.1
theorem dL_law_365 : decode cL_law 365 = .ok (.iadd, 1) := dB_863.2.2.2.2.2.2.2.2.2.2.2.2.2.1
theorem dL_law_366 : decode cL_law 366 = .ok (.iaload, 1) := dB_863.2.2.2.2.2.2.2.2.2.2.2.2.2.2.1
theorem dL_law_370 : decode cL_law 370 = .ok (.pop, 1) := dB_863.2.2.2.2.2.2.2.2.2.2.2.2.2.2.2
theorem dB_864 : (decode cL_law 371 = .ok (.aload_n 2, 1)) ∧ (decode cL_law 372 = .ok (.aload_n 0, 1)) ∧ (decode cL_law 373 = .ok (.iload_n 3, 1)) ∧ (decode cL_law 374 = .ok (.iconst 1, 1)) ∧ (decode cL_law 375 = .ok (.iadd, 1)) ∧ (decode cL_law 376 = .ok (.iaload, 1)) ∧ (decode cL_law 377 = .ok (.aload_n 0, 1)) ∧ (decode cL_law 378 = .ok (.iload_n 3, 1)) ∧ (decode cL_law 379 = .ok (.iconst 2, 1)) ∧ (decode cL_law 380 = .ok (.iadd, 1)) ∧ (decode cL_law 381 = .ok (.iaload, 1)) ∧ (decode cL_law 385 = .ok (.pop, 1)) ∧ (decode cL_law 386 = .ok (.goto 1070, 3)) ∧ (decode cL_law 389 = .ok (.aload_n 1, 1)) ∧ (decode cL_law 390 = .ok (.aload_n 0, 1)) ∧ (decode cL_law 391 = .ok (.iload_n 3, 1)) := by decide +kernel
theorem dL_law_371 : decode cL_law 371 = .ok (.aload_n 2, 1) := dB_864.1
theorem dL_law_372 : decode cL_law 372 = .ok (.aload_n 0, 1) := dB_864.2.1
theorem dL_law_373 : decode cL_law 373 = .ok (.iload_n 3, 1) := dB_864.2.2.1
theorem dL_law_374 : decode cL_law 374 = .ok (.iconst 1, 1) := dB_864.2.2.2.1
theorem dL_law_375 : decode cL_law 375 = .ok (.iadd, 1) := dB_864.2.2.2.2.1
theorem dL_law_376 : decode cL_law 376 = .ok (.iaload, 1) := dB_864.2.2.2.2.2.1
theorem dL_law_377 : decode cL_law 377 = .ok (.aload_n 0, 1) := dB_864.2.2.2.2.2.2.1
theorem dL_law_378 : decode cL_law 378 = .ok (.iload_n 3, 1) := dB_864.2.2.2.2.2.2.2.1
theorem dL_law_379 : decode cL_law 379 = .ok (.iconst 2, 1) := dB_864.2.2.2.2.2.2.2.2.1
theorem dL_law_380 : decode cL_law 380 = .ok (.iadd, 1) := dB_864.2.2.2.2.2.2.2.2.2.1
theorem dL_law_381 : decode cL_law 381 = .ok (.iaload, 1) := dB_864.2.2.2.2.2.2.2.2.2.2.1
theorem dL_law_385 : decode cL_law 385 = .ok (.pop, 1) := dB_864.2.2.2.2.2.2.2.2.2.2.2.1
theorem dL_law_386 : decode cL_law 386 = .ok (.goto 1070, 3) := dB_864.2.2.2.2.2.2.2.2.2.2.2.2.1
theorem dL_law_389 : decode cL_law 389 = .ok (.aload_n 1, 1) := dB_864.2.2.2.2.2.2.2.2.2.2.2.2.2.1
theorem dL_law_390 : decode cL_law 390 = .ok (.aload_n 0, 1) := dB_864.2.2.2.2.2.2.2.2.2.2.2.2.2.2.1
theorem dL_law_391 : decode cL_law 391 = .ok (.iload_n 3, 1) := dB_864.2.2.2.2.2.2.2.2.2.2.2.2.2.2.2
theorem dB_865 : (decode cL_law 392 = .ok (.iconst 1, 1)) ∧ (decode cL_law 393 = .ok (.iadd, 1)) ∧ (decode cL_law 394 = .ok (.iaload, 1)) ∧ (decode cL_law 395 = .ok (.aload_n 0, 1)) ∧ (decode cL_law 396 = .ok (.iload_n 3, 1)) ∧ (decode cL_law 397 = .ok (.iconst 2, 1)) ∧ (decode cL_law 398 = .ok (.iadd, 1)) ∧ (decode cL_law 399 = .ok (.iaload, 1)) ∧ (decode cL_law 403 = .ok (.aload_n 2, 1)) ∧ (decode cL_law 404 = .ok (.aload_n 0, 1)) ∧ (decode cL_law 405 = .ok (.iload_n 3, 1)) ∧ (decode cL_law 406 = .ok (.iconst 1, 1)) ∧ (decode cL_law 407 = .ok (.iadd, 1)) ∧ (decode cL_law 408 = .ok (.iaload, 1)) ∧ (decode cL_law 409 = .ok (.aload_n 0, 1)) ∧ (decode cL_law 410 = .ok (.iload_n 3, 1)) := by decide +kernel
theorem dL_law_392 : decode cL_law 392 = .ok (.iconst 1, 1) := dB_865.1
theorem dL_law_393 : decode cL_law 393 = .ok (.iadd, 1) := dB_865.2.1
theorem dL_law_394 : decode cL_law 394 = .ok (.iaload, 1) := dB_865.2.2.1
theorem dL_law_395 : decode cL_law 395 = .ok (.aload_n 0, 1) := dB_865.2.2.2.1
theorem dL_law_396 : decode cL_law 396 = .ok (.iload_n 3, 1) := dB_865.2.2.2.2.1
theorem dL_law_397 : decode cL_law 397 = .ok (.iconst 2, 1) := dB_865.2.2.2.2.2.1
theorem dL_law_398 : decode cL_law 398 = .ok (.iadd, 1) := dB_865.2.2.2.2.2.2.1
theorem dL_law_399 : decode cL_law 399 = .ok (.iaload, 1) := dB_865.2.2.2.2.2.2.2.1
theorem dL_law_403 : decode cL_law 403 = .ok (.aload_n 2, 1) := dB_865.2.2.2.2.2.2.2.2.1
theorem dL_law_404 : decode cL_law 404 = .ok (.aload_n 0, 1) := dB_865.2.2.2.2.2.2.2.2.2.1
theorem dL_law_405 : decode cL_law 405 = .ok (.iload_n 3, 1) := dB_865.2.2.2.2.2.2.2.2.2.2.1
theorem dL_law_406 : decode cL_law 406 = .ok (.iconst 1, 1) := dB_865.2.2.2.2.2.2.2.2.2.2.2.1
theorem dL_law_407 : decode cL_law 407 = .ok (.iadd, 1) := dB_865.2.2.2.2.2.2.2.2.2.2.2.2.1
theorem dL_law_408 : decode cL_law 408 = .ok (.iaload, 1) := dB_865.2.2.2.2.2.2.2.2.2.2.2.2.2.1
theorem dL_law_409 : decode cL_law 409 = .ok (.aload_n 0, 1) := dB_865.2.2.2.2.2.2.2.2.2.2.2.2.2.2.1
theorem dL_law_410 : decode cL_law 410 = .ok (.iload_n 3, 1) := dB_865.2.2.2.2.2.2.2.2.2.2.2.2.2.2.2
theorem dB_866 : (decode cL_law 411 = .ok (.iconst 2, 1)) ∧ (decode cL_law 412 = .ok (.iadd, 1)) ∧ (decode cL_law 413 = .ok (.iaload, 1)) ∧ (decode cL_law 417 = .ok (.if_icmp .eq 1039, 3)) ∧ (decode cL_law 422 = .ok (.aload_n 1, 1)) ∧ (decode cL_law 423 = .ok (.aload_n 0, 1)) ∧ (decode cL_law 424 = .ok (.iload_n 3, 1)) ∧ (decode cL_law 425 = .ok (.iconst 1, 1)) ∧ (decode cL_law 426 = .ok (.iadd, 1)) ∧ (decode cL_law 427 = .ok (.iaload, 1)) ∧ (decode cL_law 428 = .ok (.aload_n 0, 1)) ∧ (decode cL_law 429 = .ok (.iload_n 3, 1)) ∧ (decode cL_law 430 = .ok (.iconst 2, 1)) ∧ (decode cL_law 431 = .ok (.iadd, 1)) ∧ (decode cL_law 432 = .ok (.iaload, 1)) ∧ (decode cL_law 436 = .ok (.pop, 1)) := by decide +kernel
theorem dL_law_411 : decode cL_law 411 = .ok (.iconst 2, 1) := dB_866.1
theorem dL_law_412 : decode cL_law 412 = .ok (.iadd, 1) := dB_866.2.1
theorem dL_law_413 : decode cL_law 413 = .ok (.iaload, 1) := dB_866.2.2.1
theorem dL_law_417 : decode cL_law 417 = .ok (.if_icmp .eq 1039, 3) := dB_866.2.2.2.1
theorem dL_law_422 : decode cL_law 422 = .ok (.aload_n 1, 1) := dB_866.2.2.2.2.1
theorem dL_law_423 : decode cL_law 423 = .ok (.aload_n 0, 1) := dB_866.2.2.2.2.2.1
theorem dL_law_424 : decode cL_law 424 = .ok (.iload_n 3, 1) := dB_866.2.2.2.2.2.2.1
theorem dL_law_425 : decode cL_law 425 = .ok (.iconst 1, 1) := dB_866.2.2.2.2.2.2.2.1
theorem dL_law_426 : decode cL_law 426 = .ok (.iadd, 1) := dB_866.2.2.2.2.2.2.2.2.1
theorem dL_law_427 : decode cL_law 427 = .ok (.iaload, 1) := dB_866.2.2.2.2.2.2.2.2.2.1
theorem dL_law_428 : decode cL_law 428 = .ok (.aload_n 0, 1) := dB_866.2.2.2.2.2.2.2.2.2.2.1
theorem dL_law_429 : decode cL_law 429 = .ok (.iload_n 3, 1) := dB_866.2.2.2.2.2.2.2.2.2.2.2.1
theorem dL_law_430 : decode cL_law 430 = .ok (.iconst 2, 1) := dB_866.2.2.2.2.2.2.2.2.2.2.2.2.1
theorem dL_law_431 : decode cL_law 431 = .ok (.iadd, 1) := dB_866.2.2.2.2.2.2.2.2.2.2.2.2.2.1
theorem dL_law_432 : decode cL_law 432 = .ok (.iaload, 1) := dB_866.2.2.2.2.2.2.2.2.2.2.2.2.2.2.1
theorem dL_law_436 : decode cL_law 436 = .ok (.pop, 1) := dB_866.2.2.2.2.2.2.2.2.2.2.2.2.2.2.2
theorem dB_867 : (decode cL_law 437 = .ok (.aload_n 2, 1)) ∧ (decode cL_law 438 = .ok (.aload_n 0, 1)) ∧ (decode cL_law 439 = .ok (.iload_n 3, 1)) ∧ (decode cL_law 440 = .ok (.iconst 1, 1)) ∧ (decode cL_law 441 = .ok (.iadd, 1)) ∧ (decode cL_law 442 = .ok (.iaload, 1)) ∧ (decode cL_law 443 = .ok (.aload_n 0, 1)) ∧ (decode cL_law 444 = .ok (.iload_n 3, 1)) ∧ (decode cL_law 445 = .ok (.iconst 2, 1)) ∧ (decode cL_law 446 = .ok (.iadd, 1)) ∧ (decode cL_law 447 = .ok (.iaload, 1)) ∧ (decode cL_law 451 = .ok (.pop, 1)) ∧ (decode cL_law 452 = .ok (.goto 1004, 3)) ∧ (decode cL_law 455 = .ok (.aload_n 1, 1)) ∧ (decode cL_law 456 = .ok (.aload_n 0, 1)) ∧ (decode cL_law 457 = .ok (.iload_n 3, 1)) := by decide +kernel
theorem dL_law_437 : decode cL_law 437 = .ok (.aload_n 2, 1) := dB_867.1
theorem dL_law_438 : decode cL_law 438 = .ok (.aload_n 0, 1) := dB_867.2.1
theorem dL_law_439 : decode cL_law 439 = .ok (.iload_n 3, 1) := dB_867.2.2.1
theorem dL_law_440 : decode cL_law 440 = .ok (.iconst 1, 1) := dB_867.2.2.2.1
theorem dL_law_441 : decode cL_law 441 = .ok (.iadd, 1) := dB_867.2.2.2.2.1
theorem dL_law_442 : decode cL_law 442 = .ok (.iaload, 1) := dB_867.2.2.2.2.2.1
theorem dL_law_443 : decode cL_law 443 = .ok (.aload_n 0, 1) := dB_867.2.2.2.2.2.2.1
theorem dL_law_444 : decode cL_law 444 = .ok (.iload_n 3, 1) := dB_867.2.2.2.2.2.2.2.1
theorem dL_law_445 : decode cL_law 445 = .ok (.iconst 2, 1) := dB_867.2.2.2.2.2.2.2.2.1
theorem dL_law_446 : decode cL_law 446 = .ok (.iadd, 1) := dB_867.2.2.2.2.2.2.2.2.2.1
theorem dL_law_447 : decode cL_law 447 = .ok (.iaload, 1) := dB_867.2.2.2.2.2.2.2.2.2.2.1
theorem dL_law_451 : decode cL_law 451 = .ok (.pop, 1) := dB_867.2.2.2.2.2.2.2.2.2.2.2.1
theorem dL_law_452 : decode cL_law 452 = .ok (.goto 1004, 3) := dB_867.2.2.2.2.2.2.2.2.2.2.2.2.1
theorem dL_law_455 : decode cL_law 455 = .ok (.aload_n 1, 1) := dB_867.2.2.2.2.2.2.2.2.2.2.2.2.2.1
theorem dL_law_456 : decode cL_law 456 = .ok (.aload_n 0, 1) := dB_867.2.2.2.2.2.2.2.2.2.2.2.2.2.2.1
theorem dL_law_457 : decode cL_law 457 = .ok (.iload_n 3, 1) := dB_867.2.2.2.2.2.2.2.2.2.2.2.2.2.2.2
theorem dB_868 : (decode cL_law 458 = .ok (.iconst 1, 1)) ∧ (decode cL_law 459 = .ok (.iadd, 1)) ∧ (decode cL_law 460 = .ok (.iaload, 1)) ∧ (decode cL_law 461 = .ok (.aload_n 0, 1)) ∧ (decode cL_law 462 = .ok (.iload_n 3, 1)) ∧ (decode cL_law 463 = .ok (.iconst 2, 1)) ∧ (decode cL_law 464 = .ok (.iadd, 1)) ∧ (decode cL_law 465 = .ok (.iaload, 1)) ∧ (decode cL_law 469 = .ok (.pop, 1)) ∧ (decode cL_law 470 = .ok (.aload_n 2, 1)) ∧ (decode cL_law 471 = .ok (.aload_n 0, 1)) ∧ (decode cL_law 472 = .ok (.iload_n 3, 1)) ∧ (decode cL_law 473 = .ok (.iconst 1, 1)) ∧ (decode cL_law 474 = .ok (.iadd, 1)) ∧ (decode cL_law 475 = .ok (.iaload, 1)) ∧ (decode cL_law 476 = .ok (.aload_n 0, 1)) := by decide +kernel
theorem dL_law_458 : decode cL_law 458 = .ok (.iconst 1, 1) := dB_868.1
theorem dL_law_459 : decode cL_law 459 = .ok (.iadd, 1) := dB_868.2.1
theorem dL_law_460 : decode cL_law 460 = .ok (.iaload, 1) := dB_868.2.2.1
theorem dL_law_461 : decode cL_law 461 = .ok (.aload_n 0, 1) := dB_868.2.2.2.1
theorem dL_law_462 : decode cL_law 462 = .ok (.iload_n 3, 1) := dB_868.2.2.2.2.1
theorem dL_law_463 : decode cL_law 463 = .ok (.iconst 2, 1) := dB_868.2.2.2.2.2.1
theorem dL_law_464 : decode cL_law 464 = .ok (.iadd, 1) := dB_868.2.2.2.2.2.2.1
theorem dL_law_465 : decode cL_law 465 = .ok (.iaload, 1) := dB_868.2.2.2.2.2.2.2.1
theorem dL_law_469 : decode cL_law 469 = .ok (.pop, 1) := dB_868.2.2.2.2.2.2.2.2.1
theorem dL_law_470 : decode cL_law 470 = .ok (.aload_n 2, 1) := dB_868.2.2.2.2.2.2.2.2.2.1
theorem dL_law_471 : decode cL_law 471 = .ok (.aload_n 0, 1) := dB_868.2.2.2.2.2.2.2.2.2.2.1
theorem dL_law_472 : decode cL_law 472 = .ok (.iload_n 3, 1) := dB_868.2.2.2.2.2.2.2.2.2.2.2.1
theorem dL_law_473 : decode cL_law 473 = .ok (.iconst 1, 1) := dB_868.2.2.2.2.2.2.2.2.2.2.2.2.1
theorem dL_law_474 : decode cL_law 474 = .ok (.iadd, 1) := dB_868.2.2.2.2.2.2.2.2.2.2.2.2.2.1
theorem dL_law_475 : decode cL_law 475 = .ok (.iaload, 1) := dB_868.2.2.2.2.2.2.2.2.2.2.2.2.2.2.1
theorem dL_law_476 : decode cL_law 476 = .ok (.aload_n 0, 1) := dB_868.2.2.2.2.2.2.2.2.2.2.2.2.2.2.2
theorem dB_869 : (decode cL_law 477 = .ok (.iload_n 3, 1)) ∧ (decode cL_law 478 = .ok (.iconst 2, 1)) ∧ (decode cL_law 479 = .ok (.iadd, 1)) ∧ (decode cL_law 480 = .ok (.iaload, 1)) ∧ (decode cL_law 484 = .ok (.pop, 1)) ∧ (decode cL_law 485 = .ok (.goto 971, 3)) ∧ (decode cL_law 488 = .ok (.aload_n 1, 1)) ∧ (decode cL_law 489 = .ok (.aload_n 0, 1)) ∧ (decode cL_law 490 = .ok (.iload_n 3, 1)) ∧ (decode cL_law 491 = .ok (.iconst 1, 1)) ∧ (decode cL_law 492 = .ok (.iadd, 1)) ∧ (decode cL_law 493 = .ok (.iaload, 1)) ∧ (decode cL_law 494 = .ok (.aload_n 0, 1)) ∧ (decode cL_law 495 = .ok (.iload_n 3, 1)) ∧ (decode cL_law 496 = .ok (.iconst 2, 1)) ∧ (decode cL_law 497 = .ok (.iadd, 1)) := by decide +kernel
theorem dL_law_477 : decode cL_law 477 = .ok (.iload_n 3, 1) := dB_869.1
theorem dL_law_478 : decode cL_law 478 = .ok (.iconst 2, 1) := dB_869.2.1
theorem dL_law_479 : decode cL_law 479 = .ok (.iadd, 1) := dB_869.2.2.1
theorem dL_law_480 : decode cL_law 480 = .ok (.iaload, 1) := dB_869.2.2.2.1
theorem dL_law_484 : decode cL_law 484 = .ok (.pop, 1) := dB_869.2.2.2.2.1
theorem dL_law_485 : decode cL_law 485 = .ok (.goto 971, 3) := dB_869.2.2.2.2.2.1
theorem dL_law_488 : decode cL_law 488 = .ok (.aload_n 1, 1) := dB_869.2.2.2.2.2.2.1
theorem dL_law_489 : decode cL_law 489 = .ok (.aload_n 0, 1) := dB_869.2.2.2.2.2.2.2.1
theorem dL_law_490 : decode cL_law 490 = .ok (.iload_n 3, 1) := dB_869.2.2.2.2.2.2.2.2.1
theorem dL_law_491 : decode cL_law 491 = .ok (.iconst 1, 1) := dB_869.2.2.2.2.2.2.2.2.2.1
theorem dL_law_492 : decode cL_law 492 = .ok (.iadd, 1) := dB_869.2.2.2.2.2.2.2.2.2.2.1
theorem dL_law_493 : decode cL_law 493 = .ok (.iaload, 1) := dB_869.2.2.2.2.2.2.2.2.2.2.2.1
theorem dL_law_494 : decode cL_law 494 = .ok (.aload_n 0, 1) := dB_869.2.2.2.2.2.2.2.2.2.2.2.2.1
theorem dL_law_495 : decode cL_law 495 = .ok (.iload_n 3, 1) := dB_869.2.2.2.2.2.2.2.2.2.2.2.2.2.1
theorem dL_law_496 : decode cL_law 496 = .ok (.iconst 2, 1) := dB_869.2.2.2.2.2.2.2.2.2.2.2.2.2.2.1
theorem dL_law_497 : decode cL_law 497 = .ok (.iadd, 1) := dB_869.2.2.2.2.2.2.2.2.2.2.2.2.2.2.2
theorem dB_870 : (decode cL_law 498 = .ok (.iaload, 1)) ∧ (decode cL_law 499 = .ok (.aload_n 0, 1)) ∧ (decode cL_law 500 = .ok (.iload_n 3, 1)) ∧ (decode cL_law 501 = .ok (.iconst 3, 1)) ∧ (decode cL_law 502 = .ok (.iadd, 1)) ∧ (decode cL_law 503 = .ok (.iaload, 1)) ∧ (decode cL_law 504 = .ok (.aload_n 0, 1)) ∧ (decode cL_law 505 = .ok (.iload_n 3, 1)) ∧ (decode cL_law 506 = .ok (.iconst 4, 1)) ∧ (decode cL_law 507 = .ok (.iadd, 1)) ∧ (decode cL_law 508 = .ok (.iaload, 1)) ∧ (decode cL_law 509 = .ok (.aload_n 0, 1)) ∧ (decode cL_law 510 = .ok (.iload_n 3, 1)) ∧ (decode cL_law 511 = .ok (.iconst 5, 1)) ∧ (decode cL_law 512 = .ok (.iadd, 1)) ∧ (decode cL_law 513 = .ok (.iaload, 1)) := by decide +kernel
theorem dL_law_498 : decode cL_law 498 = .ok (.iaload, 1) := dB_870.1
theorem dL_law_499 : decode cL_law 499 = .ok (.aload_n 0, 1) := dB_870.2.1
theorem dL_law_500 : decode cL_law 500 = .ok (.iload_n 3, 1) := dB_870.2.2.1
theorem dL_law_501 : decode cL_law 501 = .ok (.iconst 3, 1) := dB_870.2.2.2.1
theorem dL_law_502 : decode cL_law 502 = .ok (.iadd, 1) := dB_870.2.2.2.2.1
theorem dL_law_503 : decode cL_law 503 = .ok (.iaload, 1) := dB_870.2.2.2.2.2.1
theorem dL_law_504 : decode cL_law 504 = .ok (.aload_n 0, 1) := dB_870.2.2.2.2.2.2.1
theorem dL_law_505 : decode cL_law 505 = .ok (.iload_n 3, 1) := dB_870.2.2.2.2.2.2.2.1
theorem dL_law_506 : decode cL_law 506 = .ok (.iconst 4, 1) := dB_870.2.2.2.2.2.2.2.2.1
theorem dL_law_507 : decode cL_law 507 = .ok (.iadd, 1) := dB_870.2.2.2.2.2.2.2.2.2.1
theorem dL_law_508 : decode cL_law 508 = .ok (.iaload, 1) := dB_870.2.2.2.2.2.2.2.2.2.2.1
theorem dL_law_509 : decode cL_law 509 = .ok (.aload_n 0, 1) := dB_870.2.2.2.2.2.2.2.2.2.2.2.1
theorem dL_law_510 : decode cL_law 510 = .ok (.iload_n 3, 1) := dB_870.2.2.2.2.2.2.2.2.2.2.2.2.1
theorem dL_law_511 : decode cL_law 511 = .ok (.iconst 5, 1) := dB_870.2.2.2.2.2.2.2.2.2.2.2.2.2.1
theorem dL_law_512 : decode cL_law 512 = .ok (.iadd, 1) := dB_870.2.2.2.2.2.2.2.2.2.2.2.2.2.2.1
theorem dL_law_513 : decode cL_law 513 = .ok (.iaload, 1) := dB_870.2.2.2.2.2.2.2.2.2.2.2.2.2.2.2
theorem dB_871 : (decode cL_law 517 = .ok (.pop, 1)) ∧ (decode cL_law 518 = .ok (.aload_n 2, 1)) ∧ (decode cL_law 519 = .ok (.aload_n 0, 1)) ∧ (decode cL_law 520 = .ok (.iload_n 3, 1)) ∧ (decode cL_law 521 = .ok (.iconst 1, 1)) ∧ (decode cL_law 522 = .ok (.iadd, 1)) ∧ (decode cL_law 523 = .ok (.iaload, 1)) ∧ (decode cL_law 524 = .ok (.aload_n 0, 1)) ∧ (decode cL_law 525 = .ok (.iload_n 3, 1)) ∧ (decode cL_law 526 = .ok (.iconst 2, 1)) ∧ (decode cL_law 527 = .ok (.iadd, 1)) ∧ (decode cL_law 528 = .ok (.iaload, 1)) ∧ (decode cL_law 529 = .ok (.aload_n 0, 1)) ∧ (decode cL_law 530 = .ok (.iload_n 3, 1)) ∧ (decode cL_law 531 = .ok (.iconst 3, 1)) ∧ (decode cL_law 532 = .ok (.iadd, 1)) := by decide +kernel
theorem dL_law_517 : decode cL_law 517 = .ok (.pop, 1) := dB_871.1
theorem dL_law_518 : decode cL_law 518 = .ok (.aload_n 2, 1) := dB_871.2.1
theorem dL_law_519 : decode cL_law 519 = .ok (.aload_n 0, 1) := dB_871.2.2.1
theorem dL_law_520 : decode cL_law 520 = .ok (.iload_n 3, 1) := dB_871.2.2.2.1
theorem dL_law_521 : decode cL_law 521 = .ok (.iconst 1, 1) := dB_871.2.2.2.2.1
theorem dL_law_522 : decode cL_law 522 = .ok (.iadd, 1) := dB_871.2.2.2.2.2.1
theorem dL_law_523 : decode cL_law 523 = .ok (.iaload, 1) := dB_871.2.2.2.2.2.2.1
theorem dL_law_524 : decode cL_law 524 = .ok (.aload_n 0, 1) := dB_871.2.2.2.2.2.2.2.1
theorem dL_law_525 : decode cL_law 525 = .ok (.iload_n 3, 1) := dB_871.2.2.2.2.2.2.2.2.1
theorem dL_law_526 : decode cL_law 526 = .ok (.iconst 2, 1) := dB_871.2.2.2.2.2.2.2.2.2.1
theorem dL_law_527 : decode cL_law 527 = .ok (.iadd, 1) := dB_871.2.2.2.2.2.2.2.2.2.2.1
theorem dL_law_528 : decode cL_law 528 = .ok (.iaload, 1) := dB_871.2.2.2.2.2.2.2.2.2.2.2.1
theorem dL_law_529 : decode cL_law 529 = .ok (.aload_n 0, 1) := dB_871.2.2.2.2.2.2.2.2.2.2.2.2.1
theorem dL_law_530 : decode cL_law 530 = .ok (.iload_n 3, 1) := dB_871.2.2.2.2.2.2.2.2.2.2.2.2.2.1
theorem dL_law_531 : decode cL_law 531 = .ok (.iconst 3, 1) := dB_871.2.2.2.2.2.2.2.2.2.2.2.2.2.2.1
theorem dL_law_532 : decode cL_law 532 = .ok (.iadd, 1) := dB_871.2.2.2.2.2.2.2.2.2.2.2.2.2.2.2
theorem dB_872 : (decode cL_law 533 = .ok (.iaload, 1)) ∧ (decode cL_law 534 = .ok (.aload_n 0, 1)) ∧ (decode cL_law 535 = .ok (.iload_n 3, 1)) ∧ (decode cL_law 536 = .ok (.iconst 4, 1)) ∧ (decode cL_law 537 = .ok (.iadd, 1)) ∧ (decode cL_law 538 = .ok (.iaload, 1)) ∧ (decode cL_law 539 = .ok (.aload_n 0, 1)) ∧ (decode cL_law 540 = .ok (.iload_n 3, 1)) ∧ (decode cL_law 541 = .ok (.iconst 5, 1)) ∧ (decode cL_law 542 = .ok (.iadd, 1)) ∧ (decode cL_law 543 = .ok (.iaload, 1)) ∧ (decode cL_law 547 = .ok (.pop, 1)) ∧ (decode cL_law 548 = .ok (.goto 908, 3)) ∧ (decode cL_law 551 = .ok (.aload_n 1, 1)) ∧ (decode cL_law 552 = .ok (.aload_n 0, 1)) ∧ (decode cL_law 553 = .ok (.iload_n 3, 1)) := by decide +kernel
theorem dL_law_533 : decode cL_law 533 = .ok (.iaload, 1) := dB_872.1
theorem dL_law_534 : decode cL_law 534 = .ok (.aload_n 0, 1) := dB_872.2.1
theorem dL_law_535 : decode cL_law 535 = .ok (.iload_n 3, 1) := dB_872.2.2.1
theorem dL_law_536 : decode cL_law 536 = .ok (.iconst 4, 1) := dB_872.2.2.2.1
theorem dL_law_537 : decode cL_law 537 = .ok (.iadd, 1) := dB_872.2.2.2.2.1
theorem dL_law_538 : decode cL_law 538 = .ok (.iaload, 1) := dB_872.2.2.2.2.2.1
theorem dL_law_539 : decode cL_law 539 = .ok (.aload_n 0, 1) := dB_872.2.2.2.2.2.2.1
theorem dL_law_540 : decode cL_law 540 = .ok (.iload_n 3, 1) := dB_872.2.2.2.2.2.2.2.1
theorem dL_law_541 : decode cL_law 541 = .ok (.iconst 5, 1) := dB_872.2.2.2.2.2.2.2.2.1
theorem dL_law_542 : decode cL_law 542 = .ok (.iadd, 1) := dB_872.2.2.2.2.2.2.2.2.2.1
theorem dL_law_543 : decode cL_law 543 = .ok (.iaload, 1) := dB_872.2.2.2.2.2.2.2.2.2.2.1
theorem dL_law_547 : decode cL_law 547 = .ok (.pop, 1) := dB_872.2.2.2.2.2.2.2.2.2.2.2.1
theorem dL_law_548 : decode cL_law 548 = .ok (.goto 908, 3) := dB_872.2.2.2.2.2.2.2.2.2.2.2.2.1
theorem dL_law_551 : decode cL_law 551 = .ok (.aload_n 1, 1) := dB_872.2.2.2.2.2.2.2.2.2.2.2.2.2.1
theorem dL_law_552 : decode cL_law 552 = .ok (.aload_n 0, 1) := dB_872.2.2.2.2.2.2.2.2.2.2.2.2.2.2.1
theorem dL_law_553 : decode cL_law 553 = .ok (.iload_n 3, 1) := dB_872.2.2.2.2.2.2.2.2.2.2.2.2.2.2.2
theorem dB_873 : (decode cL_law 554 = .ok (.iconst 1, 1)) ∧ (decode cL_law 555 = .ok (.iadd, 1)) ∧ (decode cL_law 556 = .ok (.iaload, 1)) ∧ (decode cL_law 560 = .ok (.pop, 1)) ∧ (decode cL_law 561 = .ok (.aload_n 2, 1)) ∧ (decode cL_law 562 = .ok (.aload_n 0, 1)) ∧ (decode cL_law 563 = .ok (.iload_n 3, 1)) ∧ (decode cL_law 564 = .ok (.iconst 1, 1)) ∧ (decode cL_law 565 = .ok (.iadd, 1)) ∧ (decode cL_law 566 = .ok (.iaload, 1)) ∧ (decode cL_law 570 = .ok (.pop, 1)) ∧ (decode cL_law 571 = .ok (.goto 885, 3)) ∧ (decode cL_law 574 = .ok (.aload_n 1, 1)) ∧ (decode cL_law 578 = .ok (.pop, 1)) ∧ (decode cL_law 579 = .ok (.aload_n 2, 1)) ∧ (decode cL_law 583 = .ok (.pop, 1)) := by decide +kernel
theorem dL_law_554 : decode cL_law 554 = .ok (.iconst 1, 1) := dB_873.1
theorem dL_law_555 : decode cL_law 555 = .ok (.iadd, 1) := dB_873.2.1
theorem dL_law_556 : decode cL_law 556 = .ok (.iaload, 1) := dB_873.2.2.1
theorem dL_law_560 : decode cL_law 560 = .ok (.pop, 1) := dB_873.2.2.2.1
theorem dL_law_561 : decode cL_law 561 = .ok (.aload_n 2, 1) := dB_873.2.2.2.2.1
theorem dL_law_562 : decode cL_law 562 = .ok (.aload_n 0, 1) := dB_873.2.2.2.2.2.1
theorem dL_law_563 : decode cL_law 563 = .ok (.iload_n 3, 1) := dB_873.2.2.2.2.2.2.1
theorem dL_law_564 : decode cL_law 564 = .ok (.iconst 1, 1) := dB_873.2.2.2.2.2.2.2.1
theorem dL_law_565 : decode cL_law 565 = .ok (.iadd, 1) := dB_873.2.2.2.2.2.2.2.2.1
theorem dL_law_566 : decode cL_law 566 = .ok (.iaload, 1) := dB_873.2.2.2.2.2.2.2.2.2.1
theorem dL_law_570 : decode cL_law 570 = .ok (.pop, 1) := dB_873.2.2.2.2.2.2.2.2.2.2.1
theorem dL_law_571 : decode cL_law 571 = .ok (.goto 885, 3) := dB_873.2.2.2.2.2.2.2.2.2.2.2.1
theorem dL_law_574 : decode cL_law 574 = .ok (.aload_n 1, 1) := dB_873.2.2.2.2.2.2.2.2.2.2.2.2.1
theorem dL_law_578 : decode cL_law 578 = .ok (.pop, 1) := dB_873.2.2.2.2.2.2.2.2.2.2.2.2.2.1
theorem dL_law_579 : decode cL_law 579 = .ok (.aload_n 2, 1) := dB_873.2.2.2.2.2.2.2.2.2.2.2.2.2.2.1
theorem dL_law_583 : decode cL_law 583 = .ok (.pop, 1) := dB_873.2.2.2.2.2.2.2.2.2.2.2.2.2.2.2
theorem dB_874 : (decode cL_law 584 = .ok (.goto 872, 3)) ∧ (decode cL_law 587 = .ok (.aload_n 1, 1)) ∧ (decode cL_law 591 = .ok (.pop, 1)) ∧ (decode cL_law 592 = .ok (.aload_n 2, 1)) ∧ (decode cL_law 596 = .ok (.pop, 1)) ∧ (decode cL_law 597 = .ok (.goto 859, 3)) ∧ (decode cL_law 600 = .ok (.aload_n 1, 1)) ∧ (decode cL_law 604 = .ok (.pop, 1)) ∧ (decode cL_law 605 = .ok (.aload_n 2, 1)) ∧ (decode cL_law 609 = .ok (.pop, 1)) ∧ (decode cL_law 610 = .ok (.goto 846, 3)) ∧ (decode cL_law 613 = .ok (.aload_n 1, 1)) ∧ (decode cL_law 617 = .ok (.pop, 1)) ∧ (decode cL_law 618 = .ok (.aload_n 2, 1)) ∧ (decode cL_law 622 = .ok (.pop, 1)) ∧ (decode cL_law 623 = .ok (.goto 833, 3)) := by decide +kernel
theorem dL_law_584 : decode cL_law 584 = .ok (.goto 872, 3) := dB_874.1
theorem dL_law_587 : decode cL_law 587 = .ok (.aload_n 1, 1) := dB_874.2.1
theorem dL_law_591 : decode cL_law 591 = .ok (.pop, 1) := dB_874.2.2.1
theorem dL_law_592 : decode cL_law 592 = .ok (.aload_n 2, 1) := dB_874.2.2.2.1
theorem dL_law_596 : decode cL_law 596 = .ok (.pop, 1) := dB_874.2.2.2.2.1
theorem dL_law_597 : decode cL_law 597 = .ok (.goto 859, 3) := dB_874.2.2.2.2.2.1
theorem dL_law_600 : decode cL_law 600 = .ok (.aload_n 1, 1) := dB_874.2.2.2.2.2.2.1
theorem dL_law_604 : decode cL_law 604 = .ok (.pop, 1) := dB_874.2.2.2.2.2.2.2.1
theorem dL_law_605 : decode cL_law 605 = .ok (.aload_n 2, 1) := dB_874.2.2.2.2.2.2.2.2.1
theorem dL_law_609 : decode cL_law 609 = .ok (.pop, 1) := dB_874.2.2.2.2.2.2.2.2.2.1
theorem dL_law_610 : decode cL_law 610 = .ok (.goto 846, 3) := dB_874.2.2.2.2.2.2.2.2.2.2.1
theorem dL_law_613 : decode cL_law 613 = .ok (.aload_n 1, 1) := dB_874.2.2.2.2.2.2.2.2.2.2.2.1
theorem dL_law_617 : decode cL_law 617 = .ok (.pop, 1) := dB_874.2.2.2.2.2.2.2.2.2.2.2.2.1
theorem dL_law_618 : decode cL_law 618 = .ok (.aload_n 2, 1) := dB_874.2.2.2.2.2.2.2.2.2.2.2.2.2.1
theorem dL_law_622 : decode cL_law 622 = .ok (.pop, 1) := dB_874.2.2.2.2.2.2.2.2.2.2.2.2.2.2.1
theorem dL_law_623 : decode cL_law 623 = .ok (.goto 833, 3) := dB_874.2.2.2.2.2.2.2.2.2.2.2.2.2.2.2
theorem dB_875 : (decode cL_law 626 = .ok (.aload_n 1, 1)) ∧ (decode cL_law 630 = .ok (.pop, 1)) ∧ (decode cL_law 631 = .ok (.aload_n 2, 1)) ∧ (decode cL_law 635 = .ok (.pop, 1)) ∧ (decode cL_law 636 = .ok (.goto 820, 3)) ∧ (decode cL_law 639 = .ok (.aload_n 1, 1)) ∧ (decode cL_law 643 = .ok (.pop, 1)) ∧ (decode cL_law 644 = .ok (.aload_n 2, 1)) ∧ (decode cL_law 648 = .ok (.pop, 1)) ∧ (decode cL_law 649 = .ok (.goto 807, 3)) ∧ (decode cL_law 652 = .ok (.aload_n 1, 1)) ∧ (decode cL_law 653 = .ok (.aload_n 0, 1)) := by decide +kernel
theorem dL_law_626 : decode cL_law 626 = .ok (.aload_n 1, 1) := dB_875.1
theorem dL_law_630 : decode cL_law 630 = .ok (.pop, 1) := dB_875.2.1
theorem dL_law_631 : decode cL_law 631 = .ok (.aload_n 2, 1) := dB_875.2.2.1
theorem dL_law_635 : decode cL_law 635 = .ok (.pop, 1) := dB_875.2.2.2.1
theorem dL_law_636 : decode cL_law 636 = .ok (.goto 820, 3) := dB_875.2.2.2.2.1
theorem dL_law_639 : decode cL_law 639 = .ok (.aload_n 1, 1) := dB_875.2.2.2.2.2.1
theorem dL_law_643 : decode cL_law 643 = .ok (.pop, 1) := dB_875.2.2.2.2.2.2.1
theorem dL_law_644 : decode cL_law 644 = .ok (.aload_n 2, 1) := dB_875.2.2.2.2.2.2.2.1
theorem dL_law_648 : decode cL_law 648 = .ok (.pop, 1) := dB_875.2.2.2.2.2.2.2.2.1
theorem dL_law_649 : decode cL_law 649 = .ok (.goto 807, 3) := dB_875.2.2.2.2.2.2.2.2.2.1
theorem dL_law_652 : decode cL_law 652 = .ok (.aload_n 1, 1) := dB_875.2.2.2.2.2.2.2.2.2.2.1
theorem dL_law_653 : decode cL_law 653 = .ok (.aload_n 0, 1) := dB_875.2.2.2.2.2.2.2.2.2.2.2
end
section
theorem dB_876 : (decode cL_law 654 = .ok (.iload_n 3, 1)) ∧ (decode cL_law 655 = .ok (.iconst 1, 1)) ∧ (decode cL_law 656 = .ok (.iadd, 1)) ∧ (decode cL_law 657 = .ok (.iaload, 1)) ∧ (decode cL_law 661 = .ok (.pop, 1)) ∧ (decode cL_law 662 = .ok (.aload_n 2, 1)) ∧ (decode cL_law 663 = .ok (.aload_n 0, 1)) ∧ (decode cL_law 664 = .ok (.iload_n 3, 1)) ∧ (decode cL_law 665 = .ok (.iconst 1, 1)) ∧ (decode cL_law 666 = .ok (.iadd, 1)) ∧ (decode cL_law 667 = .ok (.iaload, 1)) ∧ (decode cL_law 671 = .ok (.pop, 1)) ∧ (decode cL_law 672 = .ok (.goto 784, 3)) ∧ (decode cL_law 675 = .ok (.aload_n 1, 1)) ∧ (decode cL_law 676 = .ok (.aload_n 0, 1)) ∧ (decode cL_law 677 = .ok (.iload_n 3, 1)) := by decide +kernel
theorem dL_law_654 : decode cL_law 654 = .ok (.iload_n 3, 1) := dB_876.1
theorem dL_law_655 : decode cL_law 655 = .ok (.iconst 1, 1) := dB_876.2.1
theorem dL_law_656 : decode cL_law 656 = .ok (.iadd, 1) := dB_876.2.2.1
theorem dL_law_657 : decode cL_law 657 = .ok (.iaload, 1) := dB_876.2.2.2.1
theorem dL_law_661 : decode cL_law 661 = .ok (.pop, 1) := dB_876.2.2.2.2.1
theorem dL_law_662 : decode cL_law 662 = .ok (.aload_n 2, 1) := dB_876.2.2.2.2.2.1
theorem dL_law_663 : decode cL_law 663 = .ok (.aload_n 0, 1) := dB_876.2.2.2.2.2.2.1
theorem dL_law_664 : decode cL_law 664 = .ok (.iload_n 3, 1) := dB_876.2.2.2.2.2.2.2.1
theorem dL_law_665 : decode cL_law 665 = .ok (.iconst 1, 1) := dB_876.2.2.2.2.2.2.2.2.1
theorem dL_law_666 : decode cL_law 666 = .ok (.iadd, 1) := dB_876.2.2.2.2.2.2.2.2.2.1
theorem dL_law_667 : decode cL_law 667 = .ok (.iaload, 1) := dB_876.2.2.2.2.2.2.2.2.2.2.1
theorem dL_law_671 : decode cL_law 671 = .ok (.pop, 1) := dB_876.2.2.2.2.2.2.2.2.2.2.2.1
theorem dL_law_672 : decode cL_law 672 = .ok (.goto 784, 3) := dB_876.2.2.2.2.2.2.2.2.2.2.2.2.1
theorem dL_law_675 : decode cL_law 675 = .ok (.aload_n 1, 1) := dB_876.2.2.2.2.2.2.2.2.2.2.2.2.2.1
theorem dL_law_676 : decode cL_law 676 = .ok (.aload_n 0, 1) := dB_876.2.2.2.2.2.2.2.2.2.2.2.2.2.2.1
theorem dL_law_677 : decode cL_law 677 = .ok (.iload_n 3, 1) := dB_876.2.2.2.2.2.2.2.2.2.2.2.2.2.2.2
theorem dB_877 : (decode cL_law 678 = .ok (.iconst 1, 1)) ∧ (decode cL_law 679 = .ok (.iadd, 1)) ∧ (decode cL_law 680 = .ok (.iaload, 1)) ∧ (decode cL_law 681 = .ok (.aload_n 0, 1)) ∧ (decode cL_law 682 = .ok (.iload_n 3, 1)) ∧ (decode cL_law 683 = .ok (.iconst 2, 1)) ∧ (decode cL_law 684 = .ok (.iadd, 1)) ∧ (decode cL_law 685 = .ok (.iaload, 1)) ∧ (decode cL_law 686 = .ok (.aload_n 0, 1)) ∧ (decode cL_law 687 = .ok (.iload_n 3, 1)) ∧ (decode cL_law 688 = .ok (.iconst 3, 1)) ∧ (decode cL_law 689 = .ok (.iadd, 1)) ∧ (decode cL_law 690 = .ok (.iaload, 1)) ∧ (decode cL_law 694 = .ok (.pop, 1)) ∧ (decode cL_law 695 = .ok (.aload_n 2, 1)) ∧ (decode cL_law 696 = .ok (.aload_n 0, 1)) := by decide +kernel
theorem dL_law_678 : decode cL_law 678 = .ok (.iconst 1, 1) := dB_877.1
theorem dL_law_679 : decode cL_law 679 = .ok (.iadd, 1) := dB_877.2.1
theorem dL_law_680 : decode cL_law 680 = .ok (.iaload, 1) := dB_877.2.2.1
theorem dL_law_681 : decode cL_law 681 = .ok (.aload_n 0, 1) := dB_877.2.2.2.1
theorem dL_law_682 : decode cL_law 682 = .ok (.iload_n 3, 1) := dB_877.2.2.2.2.1
theorem dL_law_683 : decode cL_law 683 = .ok (.iconst 2, 1) := dB_877.2.2.2.2.2.1
theorem dL_law_684 : decode cL_law 684 = .ok (.iadd, 1) := dB_877.2.2.2.2.2.2.1
theorem dL_law_685 : decode cL_law 685 = .ok (.iaload, 1) := dB_877.2.2.2.2.2.2.2.1
theorem dL_law_686 : decode cL_law 686 = .ok (.aload_n 0, 1) := dB_877.2.2.2.2.2.2.2.2.1
theorem dL_law_687 : decode cL_law 687 = .ok (.iload_n 3, 1) := dB_877.2.2.2.2.2.2.2.2.2.1
theorem dL_law_688 : decode cL_law 688 = .ok (.iconst 3, 1) := dB_877.2.2.2.2.2.2.2.2.2.2.1
theorem dL_law_689 : decode cL_law 689 = .ok (.iadd, 1) := dB_877.2.2.2.2.2.2.2.2.2.2.2.1
theorem dL_law_690 : decode cL_law 690 = .ok (.iaload, 1) := dB_877.2.2.2.2.2.2.2.2.2.2.2.2.1
theorem dL_law_694 : decode cL_law 694 = .ok (.pop, 1) := dB_877.2.2.2.2.2.2.2.2.2.2.2.2.2.1
theorem dL_law_695 : decode cL_law 695 = .ok (.aload_n 2, 1) := dB_877.2.2.2.2.2.2.2.2.2.2.2.2.2.2.1
theorem dL_law_696 : decode cL_law 696 = .ok (.aload_n 0, 1) := dB_877.2.2.2.2.2.2.2.2.2.2.2.2.2.2.2
theorem dB_878 : (decode cL_law 697 = .ok (.iload_n 3, 1)) ∧ (decode cL_law 698 = .ok (.iconst 1, 1)) ∧ (decode cL_law 699 = .ok (.iadd, 1)) ∧ (decode cL_law 700 = .ok (.iaload, 1)) ∧ (decode cL_law 701 = .ok (.aload_n 0, 1)) ∧ (decode cL_law 702 = .ok (.iload_n 3, 1)) ∧ (decode cL_law 703 = .ok (.iconst 2, 1)) ∧ (decode cL_law 704 = .ok (.iadd, 1)) ∧ (decode cL_law 705 = .ok (.iaload, 1)) ∧ (decode cL_law 706 = .ok (.aload_n 0, 1)) ∧ (decode cL_law 707 = .ok (.iload_n 3, 1)) ∧ (decode cL_law 708 = .ok (.iconst 3, 1)) ∧ (decode cL_law 709 = .ok (.iadd, 1)) ∧ (decode cL_law 710 = .ok (.iaload, 1)) ∧ (decode cL_law 714 = .ok (.pop, 1)) ∧ (decode cL_law 715 = .ok (.goto 741, 3)) := by decide +kernel
theorem dL_law_697 : decode cL_law 697 = .ok (.iload_n 3, 1) := dB_878.1
theorem dL_law_698 : decode cL_law 698 = .ok (.iconst 1, 1) := dB_878.2.1
theorem dL_law_699 : decode cL_law 699 = .ok (.iadd, 1) := dB_878.2.2.1
theorem dL_law_700 : decode cL_law 700 = .ok (.iaload, 1) := dB_878.2.2.2.1
theorem dL_law_701 : decode cL_law 701 = .ok (.aload_n 0, 1) := dB_878.2.2.2.2.1
theorem dL_law_702 : decode cL_law 702 = .ok (.iload_n 3, 1) := dB_878.2.2.2.2.2.1
theorem dL_law_703 : decode cL_law 703 = .ok (.iconst 2, 1) := dB_878.2.2.2.2.2.2.1
theorem dL_law_704 : decode cL_law 704 = .ok (.iadd, 1) := dB_878.2.2.2.2.2.2.2.1
theorem dL_law_705 : decode cL_law 705 = .ok (.iaload, 1) := dB_878.2.2.2.2.2.2.2.2.1
theorem dL_law_706 : decode cL_law 706 = .ok (.aload_n 0, 1) := dB_878.2.2.2.2.2.2.2.2.2.1
theorem dL_law_707 : decode cL_law 707 = .ok (.iload_n 3, 1) := dB_878.2.2.2.2.2.2.2.2.2.2.1
theorem dL_law_708 : decode cL_law 708 = .ok (.iconst 3, 1) := dB_878.2.2.2.2.2.2.2.2.2.2.2.1
theorem dL_law_709 : decode cL_law 709 = .ok (.iadd, 1) := dB_878.2.2.2.2.2.2.2.2.2.2.2.2.1
theorem dL_law_710 : decode cL_law 710 = .ok (.iaload, 1) := dB_878.2.2.2.2.2.2.2.2.2.2.2.2.2.1
theorem dL_law_714 : decode cL_law 714 = .ok (.pop, 1) := dB_878.2.2.2.2.2.2.2.2.2.2.2.2.2.2.1
theorem dL_law_715 : decode cL_law 715 = .ok (.goto 741, 3) := dB_878.2.2.2.2.2.2.2.2.2.2.2.2.2.2.2
theorem dB_879 : (decode cL_law 718 = .ok (.aload_n 1, 1)) ∧ (decode cL_law 719 = .ok (.aload_n 0, 1)) ∧ (decode cL_law 720 = .ok (.iload_n 3, 1)) ∧ (decode cL_law 721 = .ok (.iconst 1, 1)) ∧ (decode cL_law 722 = .ok (.iadd, 1)) ∧ (decode cL_law 723 = .ok (.iaload, 1)) ∧ (decode cL_law 724 = .ok (.aload_n 0, 1)) ∧ (decode cL_law 725 = .ok (.iload_n 3, 1)) ∧ (decode cL_law 726 = .ok (.iconst 2, 1)) ∧ (decode cL_law 727 = .ok (.iadd, 1)) ∧ (decode cL_law 728 = .ok (.iaload, 1)) ∧ (decode cL_law 732 = .ok (.pop, 1)) ∧ (decode cL_law 733 = .ok (.aload_n 2, 1)) ∧ (decode cL_law 734 = .ok (.aload_n 0, 1)) ∧ (decode cL_law 735 = .ok (.iload_n 3, 1)) ∧ (decode cL_law 736 = .ok (.iconst 1, 1)) := by decide +kernel
theorem dL_law_718 : decode cL_law 718 = .ok (.aload_n 1, 1) := dB_879.1
theorem dL_law_719 : decode cL_law 719 = .ok (.aload_n 0, 1) := dB_879.2.1
theorem dL_law_720 : decode cL_law 720 = .ok (.iload_n 3, 1) := dB_879.2.2.1
theorem dL_law_721 : decode cL_law 721 = .ok (.iconst 1, 1) := dB_879.2.2.2.1
theorem dL_law_722 : decode cL_law 722 = .ok (.iadd, 1) := dB_879.2.2.2.2.1
theorem dL_law_723 : decode cL_law 723 = .ok (.iaload, 1) := dB_879.2.2.2.2.2.1
theorem dL_law_724 : decode cL_law 724 = .ok (.aload_n 0, 1) := dB_879.2.2.2.2.2.2.1
theorem dL_law_725 : decode cL_law 725 = .ok (.iload_n 3, 1) := dB_879.2.2.2.2.2.2.2.1
theorem dL_law_726 : decode cL_law 726 = .ok (.iconst 2, 1) := dB_879.2.2.2.2.2.2.2.2.1
theorem dL_law_727 : decode cL_law 727 = .ok (.iadd, 1) := dB_879.2.2.2.2.2.2.2.2.2.1
theorem dL_law_728 : decode cL_law 728 = .ok (.iaload, 1) := dB_879.2.2.2.2.2.2.2.2.2.2.1
theorem dL_law_732 : decode cL_law 732 = .ok (.pop, 1) := dB_879.2.2.2.2.2.2.2.2.2.2.2.1
theorem dL_law_733 : decode cL_law 733 = .ok (.aload_n 2, 1) := dB_879.2.2.2.2.2.2.2.2.2.2.2.2.1
theorem dL_law_734 : decode cL_law 734 = .ok (.aload_n 0, 1) := dB_879.2.2.2.2.2.2.2.2.2.2.2.2.2.1
theorem dL_law_735 : decode cL_law 735 = .ok (.iload_n 3, 1) := dB_879.2.2.2.2.2.2.2.2.2.2.2.2.2.2.1
theorem dL_law_736 : decode cL_law 736 = .ok (.iconst 1, 1) := dB_879.2.2.2.2.2.2.2.2.2.2.2.2.2.2.2
theorem dB_880 : (decode cL_law 737 = .ok (.iadd, 1)) ∧ (decode cL_law 738 = .ok (.iaload, 1)) ∧ (decode cL_law 739 = .ok (.aload_n 0, 1)) ∧ (decode cL_law 740 = .ok (.iload_n 3, 1)) ∧ (decode cL_law 741 = .ok (.iconst 2, 1)) ∧ (decode cL_law 742 = .ok (.iadd, 1)) ∧ (decode cL_law 743 = .ok (.iaload, 1)) ∧ (decode cL_law 747 = .ok (.pop, 1)) ∧ (decode cL_law 748 = .ok (.goto 708, 3)) ∧ (decode cL_law 751 = .ok (.aload_n 1, 1)) ∧ (decode cL_law 752 = .ok (.aload_n 0, 1)) ∧ (decode cL_law 753 = .ok (.iload_n 3, 1)) ∧ (decode cL_law 754 = .ok (.iconst 1, 1)) ∧ (decode cL_law 755 = .ok (.iadd, 1)) ∧ (decode cL_law 756 = .ok (.iaload, 1)) ∧ (decode cL_law 760 = .ok (.pop, 1)) := by decide +kernel
theorem dL_law_737 : decode cL_law 737 = .ok (.iadd, 1) := dB_880.1
theorem dL_law_738 : decode cL_law 738 = .ok (.iaload, 1) := dB_880.2.1
theorem dL_law_739 : decode cL_law 739 = .ok (.aload_n 0, 1) := dB_880.2.2.1
theorem dL_law_740 : decode cL_law 740 = .ok (.iload_n 3, 1) := dB_880.2.2.2.1
theorem dL_law_741 : decode cL_law 741 = .ok (.iconst 2, 1) := dB_880.2.2.2.2.1
theorem dL_law_742 : decode cL_law 742 = .ok (.iadd, 1) := dB_880.2.2.2.2.2.1
theorem dL_law_743 : decode cL_law 743 = .ok (.iaload, 1) := dB_880.2.2.2.2.2.2.1
theorem dL_law_747 : decode cL_law 747 = .ok (.pop, 1) := dB_880.2.2.2.2.2.2.2.1
theorem dL_law_748 : decode cL_law 748 = .ok (.goto 708, 3) := dB_880.2.2.2.2.2.2.2.2.1
theorem dL_law_751 : decode cL_law 751 = .ok (.aload_n 1, 1) := dB_880.2.2.2.2.2.2.2.2.2.1
theorem dL_law_752 : decode cL_law 752 = .ok (.aload_n 0, 1) := dB_880.2.2.2.2.2.2.2.2.2.2.1
theorem dL_law_753 : decode cL_law 753 = .ok (.iload_n 3, 1) := dB_880.2.2.2.2.2.2.2.2.2.2.2.1
theorem dL_law_754 : decode cL_law 754 = .ok (.iconst 1, 1) := dB_880.2.2.2.2.2.2.2.2.2.2.2.2.1
theorem dL_law_755 : decode cL_law 755 = .ok (.iadd, 1) := dB_880.2.2.2.2.2.2.2.2.2.2.2.2.2.1
theorem dL_law_756 : decode cL_law 756 = .ok (.iaload, 1) := dB_880.2.2.2.2.2.2.2.2.2.2.2.2.2.2.1
theorem dL_law_760 : decode cL_law 760 = .ok (.pop, 1) := dB_880.2.2.2.2.2.2.2.2.2.2.2.2.2.2.2
theorem dB_881 : (decode cL_law 761 = .ok (.aload_n 2, 1)) ∧ (decode cL_law 762 = .ok (.aload_n 0, 1)) ∧ (decode cL_law 763 = .ok (.iload_n 3, 1)) ∧ (decode cL_law 764 = .ok (.iconst 1, 1)) ∧ (decode cL_law 765 = .ok (.iadd, 1)) ∧ (decode cL_law 766 = .ok (.iaload, 1)) ∧ (decode cL_law 770 = .ok (.pop, 1)) ∧ (decode cL_law 771 = .ok (.goto 685, 3)) ∧ (decode cL_law 774 = .ok (.aload_n 1, 1)) ∧ (decode cL_law 775 = .ok (.aload_n 0, 1)) ∧ (decode cL_law 776 = .ok (.iload_n 3, 1)) ∧ (decode cL_law 777 = .ok (.iconst 1, 1)) ∧ (decode cL_law 778 = .ok (.iadd, 1)) ∧ (decode cL_law 779 = .ok (.iaload, 1)) ∧ (decode cL_law 783 = .ok (.pop2, 1)) ∧ (decode cL_law 784 = .ok (.aload_n 2, 1)) := by decide +kernel
theorem dL_law_761 : decode cL_law 761 = .ok (.aload_n 2, 1) := dB_881.1
theorem dL_law_762 : decode cL_law 762 = .ok (.aload_n 0, 1) := dB_881.2.1
theorem dL_law_763 : decode cL_law 763 = .ok (.iload_n 3, 1) := dB_881.2.2.1
theorem dL_law_764 : decode cL_law 764 = .ok (.iconst 1, 1) := dB_881.2.2.2.1
theorem dL_law_765 : decode cL_law 765 = .ok (.iadd, 1) := dB_881.2.2.2.2.1
theorem dL_law_766 : decode cL_law 766 = .ok (.iaload, 1) := dB_881.2.2.2.2.2.1
theorem dL_law_770 : decode cL_law 770 = .ok (.pop, 1) := dB_881.2.2.2.2.2.2.1
theorem dL_law_771 : decode cL_law 771 = .ok (.goto 685, 3) := dB_881.2.2.2.2.2.2.2.1
theorem dL_law_774 : decode cL_law 774 = .ok (.aload_n 1, 1) := dB_881.2.2.2.2.2.2.2.2.1
theorem dL_law_775 : decode cL_law 775 = .ok (.aload_n 0, 1) := dB_881.2.2.2.2.2.2.2.2.2.1
theorem dL_law_776 : decode cL_law 776 = .ok (.iload_n 3, 1) := dB_881.2.2.2.2.2.2.2.2.2.2.1
theorem dL_law_777 : decode cL_law 777 = .ok (.iconst 1, 1) := dB_881.2.2.2.2.2.2.2.2.2.2.2.1
theorem dL_law_778 : decode cL_law 778 = .ok (.iadd, 1) := dB_881.2.2.2.2.2.2.2.2.2.2.2.2.1
theorem dL_law_779 : decode cL_law 779 = .ok (.iaload, 1) := dB_881.2.2.2.2.2.2.2.2.2.2.2.2.2.1
theorem dL_law_783 : decode cL_law 783 = .ok (.pop2, 1) := dB_881.2.2.2.2.2.2.2.2.2.2.2.2.2.2.1
theorem dL_law_784 : decode cL_law 784 = .ok (.aload_n 2, 1) := dB_881.2.2.2.2.2.2.2.2.2.2.2.2.2.2.2
theorem dB_882 : (decode cL_law 785 = .ok (.aload_n 0, 1)) ∧ (decode cL_law 786 = .ok (.iload_n 3, 1)) ∧ (decode cL_law 787 = .ok (.iconst 1, 1)) ∧ (decode cL_law 788 = .ok (.iadd, 1)) ∧ (decode cL_law 789 = .ok (.iaload, 1)) ∧ (decode cL_law 793 = .ok (.pop2, 1)) ∧ (decode cL_law 794 = .ok (.goto 662, 3)) ∧ (decode cL_law 797 = .ok (.aload_n 1, 1)) ∧ (decode cL_law 798 = .ok (.aload_n 0, 1)) ∧ (decode cL_law 799 = .ok (.iload_n 3, 1)) ∧ (decode cL_law 800 = .ok (.iconst 1, 1)) ∧ (decode cL_law 801 = .ok (.iadd, 1)) ∧ (decode cL_law 802 = .ok (.iaload, 1)) ∧ (decode cL_law 803 = .ok (.aload_n 0, 1)) ∧ (decode cL_law 804 = .ok (.iload_n 3, 1)) ∧ (decode cL_law 805 = .ok (.iconst 2, 1)) := by decide +kernel
theorem dL_law_785 : decode cL_law 785 = .ok (.aload_n 0, 1) := dB_882.1
theorem dL_law_786 : decode cL_law 786 = .ok (.iload_n 3, 1) := dB_882.2.1
theorem dL_law_787 : decode cL_law 787 = .ok (.iconst 1, 1) := dB_882.2.2.1
theorem dL_law_788 : decode cL_law 788 = .ok (.iadd, 1) := dB_882.2.2.2.1
theorem dL_law_789 : decode cL_law 789 = .ok (.iaload, 1) := dB_882.2.2.2.2.1
theorem dL_law_793 : decode cL_law 793 = .ok (.pop2, 1) := dB_882.2.2.2.2.2.1
theorem dL_law_794 : decode cL_law 794 = .ok (.goto 662, 3) := dB_882.2.2.2.2.2.2.1
theorem dL_law_797 : decode cL_law 797 = .ok (.aload_n 1, 1) := dB_882.2.2.2.2.2.2.2.1
theorem dL_law_798 : decode cL_law 798 = .ok (.aload_n 0, 1) := dB_882.2.2.2.2.2.2.2.2.1
theorem dL_law_799 : decode cL_law 799 = .ok (.iload_n 3, 1) := dB_882.2.2.2.2.2.2.2.2.2.1
theorem dL_law_800 : decode cL_law 800 = .ok (.iconst 1, 1) := dB_882.2.2.2.2.2.2.2.2.2.2.1
theorem dL_law_801 : decode cL_law 801 = .ok (.iadd, 1) := dB_882.2.2.2.2.2.2.2.2.2.2.2.1
theorem dL_law_802 : decode cL_law 802 = .ok (.iaload, 1) := dB_882.2.2.2.2.2.2.2.2.2.2.2.2.1
theorem dL_law_803 : decode cL_law 803 = .ok (.aload_n 0, 1) := dB_882.2.2.2.2.2.2.2.2.2.2.2.2.2.1
theorem dL_law_804 : decode cL_law 804 = .ok (.iload_n 3, 1) := dB_882.2.2.2.2.2.2.2.2.2.2.2.2.2.2.1
theorem dL_law_805 : decode cL_law 805 = .ok (.iconst 2, 1) := dB_882.2.2.2.2.2.2.2.2.2.2.2.2.2.2.2
theorem dB_883 : (decode cL_law 806 = .ok (.iadd, 1)) ∧ (decode cL_law 807 = .ok (.iaload, 1)) ∧ (decode cL_law 811 = .ok (.pop, 1)) ∧ (decode cL_law 812 = .ok (.aload_n 2, 1)) ∧ (decode cL_law 813 = .ok (.aload_n 0, 1)) ∧ (decode cL_law 814 = .ok (.iload_n 3, 1)) ∧ (decode cL_law 815 = .ok (.iconst 1, 1)) ∧ (decode cL_law 816 = .ok (.iadd, 1)) ∧ (decode cL_law 817 = .ok (.iaload, 1)) ∧ (decode cL_law 818 = .ok (.aload_n 0, 1)) ∧ (decode cL_law 819 = .ok (.iload_n 3, 1)) ∧ (decode cL_law 820 = .ok (.iconst 2, 1)) ∧ (decode cL_law 821 = .ok (.iadd, 1)) ∧ (decode cL_law 822 = .ok (.iaload, 1)) ∧ (decode cL_law 826 = .ok (.pop, 1)) ∧ (decode cL_law 827 = .ok (.goto 629, 3)) := by decide +kernel
theorem dL_law_806 : decode cL_law 806 = .ok (.iadd, 1) := dB_883.1
theorem dL_law_807 : decode cL_law 807 = .ok (.iaload, 1) := dB_883.2.1
theorem dL_law_811 : decode cL_law 811 = .ok (.pop, 1) := dB_883.2.2.1
theorem dL_law_812 : decode cL_law 812 = .ok (.aload_n 2, 1) := dB_883.2.2.2.1
theorem dL_law_813 : decode cL_law 813 = .ok (.aload_n 0, 1) := dB_883.2.2.2.2.1
theorem dL_law_814 : decode cL_law 814 = .ok (.iload_n 3, 1) := dB_883.2.2.2.2.2.1
theorem dL_law_815 : decode cL_law 815 = .ok (.iconst 1, 1) := dB_883.2.2.2.2.2.2.1
theorem dL_law_816 : decode cL_law 816 = .ok (.iadd, 1) := dB_883.2.2.2.2.2.2.2.1
theorem dL_law_817 : decode cL_law 817 = .ok (.iaload, 1) := dB_883.2.2.2.2.2.2.2.2.1
theorem dL_law_818 : decode cL_law 818 = .ok (.aload_n 0, 1) := dB_883.2.2.2.2.2.2.2.2.2.1
theorem dL_law_819 : decode cL_law 819 = .ok (.iload_n 3, 1) := dB_883.2.2.2.2.2.2.2.2.2.2.1
theorem dL_law_820 : decode cL_law 820 = .ok (.iconst 2, 1) := dB_883.2.2.2.2.2.2.2.2.2.2.2.1
theorem dL_law_821 : decode cL_law 821 = .ok (.iadd, 1) := dB_883.2.2.2.2.2.2.2.2.2.2.2.2.1
theorem dL_law_822 : decode cL_law 822 = .ok (.iaload, 1) := dB_883.2.2.2.2.2.2.2.2.2.2.2.2.2.1
theorem dL_law_826 : decode cL_law 826 = .ok (.pop, 1) := dB_883.2.2.2.2.2.2.2.2.2.2.2.2.2.2.1
theorem dL_law_827 : decode cL_law 827 = .ok (.goto 629, 3) := dB_883.2.2.2.2.2.2.2.2.2.2.2.2.2.2.2
theorem dB_884 : (decode cL_law 830 = .ok (.aload_n 1, 1)) ∧ (decode cL_law 831 = .ok (.aload_n 0, 1)) ∧ (decode cL_law 832 = .ok (.iload_n 3, 1)) ∧ (decode cL_law 833 = .ok (.iconst 1, 1)) ∧ (decode cL_law 834 = .ok (.iadd, 1)) ∧ (decode cL_law 835 = .ok (.iaload, 1)) ∧ (decode cL_law 839 = .ok (.pop, 1)) ∧ (decode cL_law 840 = .ok (.aload_n 2, 1)) ∧ (decode cL_law 841 = .ok (.aload_n 0, 1)) ∧ (decode cL_law 842 = .ok (.iload_n 3, 1)) ∧ (decode cL_law 843 = .ok (.iconst 1, 1)) ∧ (decode cL_law 844 = .ok (.iadd, 1)) ∧ (decode cL_law 845 = .ok (.iaload, 1)) ∧ (decode cL_law 849 = .ok (.pop, 1)) ∧ (decode cL_law 850 = .ok (.goto 606, 3)) ∧ (decode cL_law 853 = .ok (.aload_n 1, 1)) := by decide +kernel
theorem dL_law_830 : decode cL_law 830 = .ok (.aload_n 1, 1) := dB_884.1
theorem dL_law_831 : decode cL_law 831 = .ok (.aload_n 0, 1) := dB_884.2.1
theorem dL_law_832 : decode cL_law 832 = .ok (.iload_n 3, 1) := dB_884.2.2.1
theorem dL_law_833 : decode cL_law 833 = .ok (.iconst 1, 1) := dB_884.2.2.2.1
theorem dL_law_834 : decode cL_law 834 = .ok (.iadd, 1) := dB_884.2.2.2.2.1
theorem dL_law_835 : decode cL_law 835 = .ok (.iaload, 1) := dB_884.2.2.2.2.2.1
theorem dL_law_839 : decode cL_law 839 = .ok (.pop, 1) := dB_884.2.2.2.2.2.2.1
theorem dL_law_840 : decode cL_law 840 = .ok (.aload_n 2, 1) := dB_884.2.2.2.2.2.2.2.1
theorem dL_law_841 : decode cL_law 841 = .ok (.aload_n 0, 1) := dB_884.2.2.2.2.2.2.2.2.1
theorem dL_law_842 : decode cL_law 842 = .ok (.iload_n 3, 1) := dB_884.2.2.2.2.2.2.2.2.2.1
theorem dL_law_843 : decode cL_law 843 = .ok (.iconst 1, 1) := dB_884.2.2.2.2.2.2.2.2.2.2.1
theorem dL_law_844 : decode cL_law 844 = .ok (.iadd, 1) := dB_884.2.2.2.2.2.2.2.2.2.2.2.1
theorem dL_law_845 : decode cL_law 845 = .ok (.iaload, 1) := dB_884.2.2.2.2.2.2.2.2.2.2.2.2.1
theorem dL_law_849 : decode cL_law 849 = .ok (.pop, 1) := dB_884.2.2.2.2.2.2.2.2.2.2.2.2.2.1
theorem dL_law_850 : decode cL_law 850 = .ok (.goto 606, 3) := dB_884.2.2.2.2.2.2.2.2.2.2.2.2.2.2.1
theorem dL_law_853 : decode cL_law 853 = .ok (.aload_n 1, 1) := dB_884.2.2.2.2.2.2.2.2.2.2.2.2.2.2.2
theorem dB_885 : (decode cL_law 854 = .ok (.aload_n 0, 1)) ∧ (decode cL_law 855 = .ok (.iload_n 3, 1)) ∧ (decode cL_law 856 = .ok (.iconst 1, 1)) ∧ (decode cL_law 857 = .ok (.iadd, 1)) ∧ (decode cL_law 858 = .ok (.iaload, 1)) ∧ (decode cL_law 862 = .ok (.pop, 1)) ∧ (decode cL_law 863 = .ok (.aload_n 2, 1)) ∧ (decode cL_law 864 = .ok (.aload_n 0, 1)) ∧ (decode cL_law 865 = .ok (.iload_n 3, 1)) ∧ (decode cL_law 866 = .ok (.iconst 1, 1)) ∧ (decode cL_law 867 = .ok (.iadd, 1)) ∧ (decode cL_law 868 = .ok (.iaload, 1)) ∧ (decode cL_law 872 = .ok (.pop, 1)) ∧ (decode cL_law 873 = .ok (.goto 583, 3)) ∧ (decode cL_law 876 = .ok (.aload_n 1, 1)) ∧ (decode cL_law 877 = .ok (.aload_n 0, 1)) := by decide +kernel
theorem dL_law_854 : decode cL_law 854 = .ok (.aload_n 0, 1) := dB_885.1
theorem dL_law_855 : decode cL_law 855 = .ok (.iload_n 3, 1) := dB_885.2.1
theorem dL_law_856 : decode cL_law 856 = .ok (.iconst 1, 1) := dB_885.2.2.1
theorem dL_law_857 : decode cL_law 857 = .ok (.iadd, 1) := dB_885.2.2.2.1
theorem dL_law_858 : decode cL_law 858 = .ok (.iaload, 1) := dB_885.2.2.2.2.1
theorem dL_law_862 : decode cL_law 862 = .ok (.pop, 1) := dB_885.2.2.2.2.2.1
theorem dL_law_863 : decode cL_law 863 = .ok (.aload_n 2, 1) := dB_885.2.2.2.2.2.2.1
theorem dL_law_864 : decode cL_law 864 = .ok (.aload_n 0, 1) := dB_885.2.2.2.2.2.2.2.1
theorem dL_law_865 : decode cL_law 865 = .ok (.iload_n 3, 1) := dB_885.2.2.2.2.2.2.2.2.1
theorem dL_law_866 : decode cL_law 866 = .ok (.iconst 1, 1) := dB_885.2.2.2.2.2.2.2.2.2.1
theorem dL_law_867 : decode cL_law 867 = .ok (.iadd, 1) := dB_885.2.2.2.2.2.2.2.2.2.2.1
theorem dL_law_868 : decode cL_law 868 = .ok (.iaload, 1) := dB_885.2.2.2.2.2.2.2.2.2.2.2.1
theorem dL_law_872 : decode cL_law 872 = .ok (.pop, 1) := dB_885.2.2.2.2.2.2.2.2.2.2.2.2.1
theorem dL_law_873 : decode cL_law 873 = .ok (.goto 583, 3) := dB_885.2.2.2.2.2.2.2.2.2.2.2.2.2.1
theorem dL_law_876 : decode cL_law 876 = .ok (.aload_n 1, 1) := dB_885.2.2.2.2.2.2.2.2.2.2.2.2.2.2.1
theorem dL_law_877 : decode cL_law 877 = .ok (.aload_n 0, 1) := dB_885.2.2.2.2.2.2.2.2.2.2.2.2.2.2.2
theorem dB_886 : (decode cL_law 878 = .ok (.iload_n 3, 1)) ∧ (decode cL_law 879 = .ok (.iconst 1, 1)) ∧ (decode cL_law 880 = .ok (.iadd, 1)) ∧ (decode cL_law 881 = .ok (.iaload, 1)) ∧ (decode cL_law 882 = .ok (.aload_n 0, 1)) ∧ (decode cL_law 883 = .ok (.iload_n 3, 1)) ∧ (decode cL_law 884 = .ok (.iconst 2, 1)) ∧ (decode cL_law 885 = .ok (.iadd, 1)) ∧ (decode cL_law 886 = .ok (.iaload, 1)) ∧ (decode cL_law 890 = .ok (.pop, 1)) ∧ (decode cL_law 891 = .ok (.aload_n 2, 1)) ∧ (decode cL_law 892 = .ok (.aload_n 0, 1)) ∧ (decode cL_law 893 = .ok (.iload_n 3, 1)) ∧ (decode cL_law 894 = .ok (.iconst 1, 1)) ∧ (decode cL_law 895 = .ok (.iadd, 1)) ∧ (decode cL_law 896 = .ok (.iaload, 1)) := by decide +kernel
theorem dL_law_878 : decode cL_law 878 = .ok (.iload_n 3, 1) := dB_886.1
theorem dL_law_879 : decode cL_law 879 = .ok (.iconst 1, 1) := dB_886.2.1
theorem dL_law_880 : decode cL_law 880 = .ok (.iadd, 1) := dB_886.2.2.1
theorem dL_law_881 : decode cL_law 881 = .ok (.iaload, 1) := dB_886.2.2.2.1
theorem dL_law_882 : decode cL_law 882 = .ok (.aload_n 0, 1) := dB_886.2.2.2.2.1
theorem dL_law_883 : decode cL_law 883 = .ok (.iload_n 3, 1) := dB_886.2.2.2.2.2.1
theorem dL_law_884 : decode cL_law 884 = .ok (.iconst 2, 1) := dB_886.2.2.2.2.2.2.1
theorem dL_law_885 : decode cL_law 885 = .ok (.iadd, 1) := dB_886.2.2.2.2.2.2.2.1
theorem dL_law_886 : decode cL_law 886 = .ok (.iaload, 1) := dB_886.2.2.2.2.2.2.2.2.1
theorem dL_law_890 : decode cL_law 890 = .ok (.pop, 1) := dB_886.2.2.2.2.2.2.2.2.2.1
theorem dL_law_891 : decode cL_law 891 = .ok (.aload_n 2, 1) := dB_886.2.2.2.2.2.2.2.2.2.2.1
theorem dL_law_892 : decode cL_law 892 = .ok (.aload_n 0, 1) := dB_886.2.2.2.2.2.2.2.2.2.2.2.1
theorem dL_law_893 : decode cL_law 893 = .ok (.iload_n 3, 1) := dB_886.2.2.2.2.2.2.2.2.2.2.2.2.1
theorem dL_law_894 : decode cL_law 894 = .ok (.iconst 1, 1) := dB_886.2.2.2.2.2.2.2.2.2.2.2.2.2.1
theorem dL_law_895 : decode cL_law 895 = .ok (.iadd, 1) := dB_886.2.2.2.2.2.2.2.2.2.2.2.2.2.2.1
theorem dL_law_896 : decode cL_law 896 = .ok (.iaload, 1) := dB_886.2.2.2.2.2.2.2.2.2.2.2.2.2.2.2
theorem dB_887 : (decode cL_law 897 = .ok (.aload_n 0, 1)) ∧ (decode cL_law 898 = .ok (.iload_n 3, 1)) ∧ (decode cL_law 899 = .ok (.iconst 2, 1)) ∧ (decode cL_law 900 = .ok (.iadd, 1)) ∧ (decode cL_law 901 = .ok (.iaload, 1)) ∧ (decode cL_law 905 = .ok (.pop, 1)) ∧ (decode cL_law 906 = .ok (.goto 550, 3)) ∧ (decode cL_law 909 = .ok (.aload_n 1, 1)) ∧ (decode cL_law 913 = .ok (.pop, 1)) ∧ (decode cL_law 914 = .ok (.aload_n 2, 1)) ∧ (decode cL_law 918 = .ok (.pop, 1)) ∧ (decode cL_law 919 = .ok (.goto 537, 3)) ∧ (decode cL_law 922 = .ok (.aload_n 1, 1)) ∧ (decode cL_law 923 = .ok (.aload_n 0, 1)) ∧ (decode cL_law 924 = .ok (.iload_n 3, 1)) ∧ (decode cL_law 925 = .ok (.iconst 1, 1)) := by decide +kernel
theorem dL_law_897 : decode cL_law 897 = .ok (.aload_n 0, 1) := dB_887.1
theorem dL_law_898 : decode cL_law 898 = .ok (.iload_n 3, 1) := dB_887.2.1
theorem dL_law_899 : decode cL_law 899 = .ok (.iconst 2, 1) := dB_887.2.2.1
theorem dL_law_900 : decode cL_law 900 = .ok (.iadd, 1) := dB_887.2.2.2.1
theorem dL_law_901 : decode cL_law 901 = .ok (.iaload, 1) := dB_887.2.2.2.2.1
theorem dL_law_905 : decode cL_law 905 = .ok (.pop, 1) := dB_887.2.2.2.2.2.1
theorem dL_law_906 : decode cL_law 906 = .ok (.goto 550, 3) := dB_887.2.2.2.2.2.2.1
theorem dL_law_909 : decode cL_law 909 = .ok (.aload_n 1, 1) := dB_887.2.2.2.2.2.2.2.1
theorem dL_law_913 : decode cL_law 913 = .ok (.pop, 1) := dB_887.2.2.2.2.2.2.2.2.1
theorem dL_law_914 : decode cL_law 914 = .ok (.aload_n 2, 1) := dB_887.2.2.2.2.2.2.2.2.2.1
theorem dL_law_918 : decode cL_law 918 = .ok (.pop, 1) := dB_887.2.2.2.2.2.2.2.2.2.2.1
theorem dL_law_919 : decode cL_law 919 = .ok (.goto 537, 3) := dB_887.2.2.2.2.2.2.2.2.2.2.2.1
theorem dL_law_922 : decode cL_law 922 = .ok (.aload_n 1, 1) := dB_887.2.2.2.2.2.2.2.2.2.2.2.2.1
theorem dL_law_923 : decode cL_law 923 = .ok (.aload_n 0, 1) := dB_887.2.2.2.2.2.2.2.2.2.2.2.2.2.1
theorem dL_law_924 : decode cL_law 924 = .ok (.iload_n 3, 1) := dB_887.2.2.2.2.2.2.2.2.2.2.2.2.2.2.1
theorem dL_law_925 : decode cL_law 925 = .ok (.iconst 1, 1) := dB_887.2.2.2.2.2.2.2.2.2.2.2.2.2.2.2
theorem dB_888 : (decode cL_law 926 = .ok (.iadd, 1)) ∧ (decode cL_law 927 = .ok (.iaload, 1)) ∧ (decode cL_law 928 = .ok (.aload_n 0, 1)) ∧ (decode cL_law 929 = .ok (.iload_n 3, 1)) ∧ (decode cL_law 930 = .ok (.iconst 2, 1)) ∧ (decode cL_law 931 = .ok (.iadd, 1)) ∧ (decode cL_law 932 = .ok (.iaload, 1)) ∧ (decode cL_law 933 = .ok (.aload_n 0, 1)) ∧ (decode cL_law 934 = .ok (.iload_n 3, 1)) ∧ (decode cL_law 935 = .ok (.iconst 3, 1)) ∧ (decode cL_law 936 = .ok (.iadd, 1)) ∧ (decode cL_law 937 = .ok (.iaload, 1)) ∧ (decode cL_law 941 = .ok (.pop, 1)) ∧ (decode cL_law 942 = .ok (.aload_n 2, 1)) ∧ (decode cL_law 943 = .ok (.aload_n 0, 1)) ∧ (decode cL_law 944 = .ok (.iload_n 3, 1)) := by decide +kernel
theorem dL_law_926 : decode cL_law 926 = .ok (.iadd, 1) := dB_888.1
theorem dL_law_927 : decode cL_law 927 = .ok (.iaload, 1) := dB_888.2.1
theorem dL_law_928 : decode cL_law 928 = .ok (.aload_n 0, 1) := dB_888.2.2.1
theorem dL_law_929 : decode cL_law 929 = .ok (.iload_n 3, 1) := dB_888.2.2.2.1
theorem dL_law_930 : decode cL_law 930 = .ok (.iconst 2, 1) := dB_888.2.2.2.2.1
theorem dL_law_931 : decode cL_law 931 = .ok (.iadd, 1) := dB_888.2.2.2.2.2.1
theorem dL_law_932 : decode cL_law 932 = .ok (.iaload, 1) := dB_888.2.2.2.2.2.2.1
theorem dL_law_933 : decode cL_law 933 = .ok (.aload_n 0, 1) := dB_888.2.2.2.2.2.2.2.1
theorem dL_law_934 : decode cL_law 934 = .ok (.iload_n 3, 1) := dB_888.2.2.2.2.2.2.2.2.1
theorem dL_law_935 : decode cL_law 935 = .ok (.iconst 3, 1) := dB_888.2.2.2.2.2.2.2.2.2.1
theorem dL_law_936 : decode cL_law 936 = .ok (.iadd, 1) := dB_888.2.2.2.2.2.2.2.2.2.2.1
theorem dL_law_937 : decode cL_law 937 = .ok (.iaload, 1) := dB_888.2.2.2.2.2.2.2.2.2.2.2.1
theorem dL_law_941 : decode cL_law 941 = .ok (.pop, 1) := dB_888.2.2.2.2.2.2.2.2.2.2.2.2.1
theorem dL_law_942 : decode cL_law 942 = .ok (.aload_n 2, 1) := dB_888.2.2.2.2.2.2.2.2.2.2.2.2.2.1
theorem dL_law_943 : decode cL_law 943 = .ok (.aload_n 0, 1) := dB_888.2.2.2.2.2.2.2.2.2.2.2.2.2.2.1
theorem dL_law_944 : decode cL_law 944 = .ok (.iload_n 3, 1) := dB_888.2.2.2.2.2.2.2.2.2.2.2.2.2.2.2
theorem dB_889 : (decode cL_law 945 = .ok (.iconst 1, 1)) ∧ (decode cL_law 946 = .ok (.iadd, 1)) ∧ (decode cL_law 947 = .ok (.iaload, 1)) ∧ (decode cL_law 948 = .ok (.aload_n 0, 1)) ∧ (decode cL_law 949 = .ok (.iload_n 3, 1)) ∧ (decode cL_law 950 = .ok (.iconst 2, 1)) ∧ (decode cL_law 951 = .ok (.iadd, 1)) ∧ (decode cL_law 952 = .ok (.iaload, 1)) ∧ (decode cL_law 953 = .ok (.aload_n 0, 1)) ∧ (decode cL_law 954 = .ok (.iload_n 3, 1)) ∧ (decode cL_law 955 = .ok (.iconst 3, 1)) ∧ (decode cL_law 956 = .ok (.iadd, 1)) ∧ (decode cL_law 957 = .ok (.iaload, 1)) ∧ (decode cL_law 961 = .ok (.pop, 1)) ∧ (decode cL_law 962 = .ok (.goto 494, 3)) ∧ (decode cL_law 965 = .ok (.aload_n 1, 1)) := by decide +kernel
theorem dL_law_945 : decode cL_law 945 = .ok (.iconst 1, 1) := dB_889.1
theorem dL_law_946 : decode cL_law 946 = .ok (.iadd, 1) := dB_889.2.1
theorem dL_law_947 : decode cL_law 947 = .ok (.iaload, 1) := dB_889.2.2.1
theorem dL_law_948 : decode cL_law 948 = .ok (.aload_n 0, 1) := dB_889.2.2.2.1
theorem dL_law_949 : decode cL_law 949 = .ok (.iload_n 3, 1) := dB_889.2.2.2.2.1
theorem dL_law_950 : decode cL_law 950 = .ok (.iconst 2, 1) := dB_889.2.2.2.2.2.1
theorem dL_law_951 : decode cL_law 951 = .ok (.iadd, 1) := dB_889.2.2.2.2.2.2.1
theorem dL_law_952 : decode cL_law 952 = .ok (.iaload, 1) := dB_889.2.2.2.2.2.2.2.1
theorem dL_law_953 : decode cL_law 953 = .ok (.aload_n 0, 1) := dB_889.2.2.2.2.2.2.2.2.1
theorem dL_law_954 : decode cL_law 954 = .ok (.iload_n 3, 1) := dB_889.2.2.2.2.2.2.2.2.2.1
theorem dL_law_955 : decode cL_law 955 = .ok (.iconst 3, 1) := dB_889.2.2.2.2.2.2.2.2.2.2.1
theorem dL_law_956 : decode cL_law 956 = .ok (.iadd, 1) := dB_889.2.2.2.2.2.2.2.2.2.2.2.1
theorem dL_law_957 : decode cL_law 957 = .ok (.iaload, 1) := dB_889.2.2.2.2.2.2.2.2.2.2.2.2.1
theorem dL_law_961 : decode cL_law 961 = .ok (.pop, 1) := dB_889.2.2.2.2.2.2.2.2.2.2.2.2.2.1
theorem dL_law_962 : decode cL_law 962 = .ok (.goto 494, 3) := dB_889.2.2.2.2.2.2.2.2.2.2.2.2.2.2.1
theorem dL_law_965 : decode cL_law 965 = .ok (.aload_n 1, 1) := dB_889.2.2.2.2.2.2.2.2.2.2.2.2.2.2.2
theorem dB_890 : (decode cL_law 966 = .ok (.aload_n 0, 1)) ∧ (decode cL_law 967 = .ok (.iload_n 3, 1)) ∧ (decode cL_law 968 = .ok (.iconst 1, 1)) ∧ (decode cL_law 969 = .ok (.iadd, 1)) ∧ (decode cL_law 970 = .ok (.iaload, 1)) ∧ (decode cL_law 971 = .ok (.i2l, 1)) ∧ (decode cL_law 972 = .ok (.bipush 32, 2)) ∧ (decode cL_law 974 = .ok (.lshl, 1)) ∧ (decode cL_law 975 = .ok (.aload_n 0, 1)) ∧ (decode cL_law 976 = .ok (.iload_n 3, 1)) ∧ (decode cL_law 977 = .ok (.iconst 2, 1)) ∧ (decode cL_law 978 = .ok (.iadd, 1)) ∧ (decode cL_law 979 = .ok (.iaload, 1)) ∧ (decode cL_law 980 = .ok (.i2l, 1)) ∧ (decode cL_law 981 = .ok (.ldc2_w 127, 3)) ∧ (decode cL_law 984 = .ok (.land, 1)) := by decide +kernel
theorem dL_law_966 : decode cL_law 966 = .ok (.aload_n 0, 1) := dB_890.1
theorem dL_law_967 : decode cL_law 967 = .ok (.iload_n 3, 1) := dB_890.2.1
theorem dL_law_968 : decode cL_law 968 = .ok (.iconst 1, 1) := dB_890.2.2.1
theorem dL_law_969 : decode cL_law 969 = .ok (.iadd, 1) := dB_890.2.2.2.1
theorem dL_law_970 : decode cL_law 970 = .ok (.iaload, 1) := dB_890.2.2.2.2.1
theorem dL_law_971 : decode cL_law 971 = .ok (.i2l, 1) := dB_890.2.2.2.2.2.1
theorem dL_law_972 : decode cL_law 972 = .ok (.bipush 32, 2) := dB_890.2.2.2.2.2.2.1
theorem dL_law_974 : decode cL_law 974 = .ok (.lshl, 1) := dB_890.2.2.2.2.2.2.2.1
theorem dL_law_975 : decode cL_law 975 = .ok (.aload_n 0, 1) := dB_890.2.2.2.2.2.2.2.2.1
theorem dL_law_976 : decode cL_law 976 = .ok (.iload_n 3, 1) := dB_890.2.2.2.2.2.2.2.2.2.1
theorem dL_law_977 : decode cL_law 977 = .ok (.iconst 2, 1) := dB_890.2.2.2.2.2.2.2.2.2.2.1
theorem dL_law_978 : decode cL_law 978 = .ok (.iadd, 1) := dB_890.2.2.2.2.2.2.2.2.2.2.2.1
theorem dL_law_979 : decode cL_law 979 = .ok (.iaload, 1) := dB_890.2.2.2.2.2.2.2.2.2.2.2.2.1
theorem dL_law_980 : decode cL_law 980 = .ok (.i2l, 1) := dB_890.2.2.2.2.2.2.2.2.2.2.2.2.2.1
theorem dL_law_981 : decode cL_law 981 = .ok (.ldc2_w 127, 3) := dB_890.2.2.2.2.2.2.2.2.2.2.2.2.2.2.1
theorem dL_law_984 : decode cL_law 984 = .ok (.land, 1) := dB_890.2.2.2.2.2.2.2.2.2.2.2.2.2.2.2
theorem ct_RL_127 : Cond.constantLong RL 127 4294967295 ∈ gW := gW_u tb_9 102 (by rfl) (by decide +kernel)
theorem dB_891 : (decode cL_law 985 = .ok (.lor, 1)) ∧ (decode cL_law 986 = .ok (.aload_n 0, 1)) ∧ (decode cL_law 987 = .ok (.iload_n 3, 1)) ∧ (decode cL_law 988 = .ok (.iconst 3, 1)) ∧ (decode cL_law 989 = .ok (.iadd, 1)) ∧ (decode cL_law 990 = .ok (.iaload, 1)) ∧ (decode cL_law 994 = .ok (.pop, 1)) ∧ (decode cL_law 995 = .ok (.aload_n 2, 1)) ∧ (decode cL_law 996 = .ok (.aload_n 0, 1)) ∧ (decode cL_law 997 = .ok (.iload_n 3, 1)) ∧ (decode cL_law 998 = .ok (.iconst 1, 1)) ∧ (decode cL_law 999 = .ok (.iadd, 1)) ∧ (decode cL_law 1000 = .ok (.iaload, 1)) ∧ (decode cL_law 1001 = .ok (.i2l, 1)) ∧ (decode cL_law 1002 = .ok (.bipush 32, 2)) ∧ (decode cL_law 1004 = .ok (.lshl, 1)) := by decide +kernel
theorem dL_law_985 : decode cL_law 985 = .ok (.lor, 1) := dB_891.1
theorem dL_law_986 : decode cL_law 986 = .ok (.aload_n 0, 1) := dB_891.2.1
theorem dL_law_987 : decode cL_law 987 = .ok (.iload_n 3, 1) := dB_891.2.2.1
theorem dL_law_988 : decode cL_law 988 = .ok (.iconst 3, 1) := dB_891.2.2.2.1
theorem dL_law_989 : decode cL_law 989 = .ok (.iadd, 1) := dB_891.2.2.2.2.1
theorem dL_law_990 : decode cL_law 990 = .ok (.iaload, 1) := dB_891.2.2.2.2.2.1
theorem dL_law_994 : decode cL_law 994 = .ok (.pop, 1) := dB_891.2.2.2.2.2.2.1
theorem dL_law_995 : decode cL_law 995 = .ok (.aload_n 2, 1) := dB_891.2.2.2.2.2.2.2.1
theorem dL_law_996 : decode cL_law 996 = .ok (.aload_n 0, 1) := dB_891.2.2.2.2.2.2.2.2.1
theorem dL_law_997 : decode cL_law 997 = .ok (.iload_n 3, 1) := dB_891.2.2.2.2.2.2.2.2.2.1
theorem dL_law_998 : decode cL_law 998 = .ok (.iconst 1, 1) := dB_891.2.2.2.2.2.2.2.2.2.2.1
theorem dL_law_999 : decode cL_law 999 = .ok (.iadd, 1) := dB_891.2.2.2.2.2.2.2.2.2.2.2.1
theorem dL_law_1000 : decode cL_law 1000 = .ok (.iaload, 1) := dB_891.2.2.2.2.2.2.2.2.2.2.2.2.1
theorem dL_law_1001 : decode cL_law 1001 = .ok (.i2l, 1) := dB_891.2.2.2.2.2.2.2.2.2.2.2.2.2.1
theorem dL_law_1002 : decode cL_law 1002 = .ok (.bipush 32, 2) := dB_891.2.2.2.2.2.2.2.2.2.2.2.2.2.2.1
theorem dL_law_1004 : decode cL_law 1004 = .ok (.lshl, 1) := dB_891.2.2.2.2.2.2.2.2.2.2.2.2.2.2.2
theorem dB_892 : (decode cL_law 1005 = .ok (.aload_n 0, 1)) ∧ (decode cL_law 1006 = .ok (.iload_n 3, 1)) ∧ (decode cL_law 1007 = .ok (.iconst 2, 1)) ∧ (decode cL_law 1008 = .ok (.iadd, 1)) ∧ (decode cL_law 1009 = .ok (.iaload, 1)) ∧ (decode cL_law 1010 = .ok (.i2l, 1)) ∧ (decode cL_law 1011 = .ok (.ldc2_w 127, 3)) ∧ (decode cL_law 1014 = .ok (.land, 1)) ∧ (decode cL_law 1015 = .ok (.lor, 1)) ∧ (decode cL_law 1016 = .ok (.aload_n 0, 1)) ∧ (decode cL_law 1017 = .ok (.iload_n 3, 1)) ∧ (decode cL_law 1018 = .ok (.iconst 3, 1)) ∧ (decode cL_law 1019 = .ok (.iadd, 1)) ∧ (decode cL_law 1020 = .ok (.iaload, 1)) ∧ (decode cL_law 1024 = .ok (.pop, 1)) ∧ (decode cL_law 1025 = .ok (.goto 431, 3)) := by decide +kernel
theorem dL_law_1005 : decode cL_law 1005 = .ok (.aload_n 0, 1) := dB_892.1
theorem dL_law_1006 : decode cL_law 1006 = .ok (.iload_n 3, 1) := dB_892.2.1
theorem dL_law_1007 : decode cL_law 1007 = .ok (.iconst 2, 1) := dB_892.2.2.1
theorem dL_law_1008 : decode cL_law 1008 = .ok (.iadd, 1) := dB_892.2.2.2.1
theorem dL_law_1009 : decode cL_law 1009 = .ok (.iaload, 1) := dB_892.2.2.2.2.1
theorem dL_law_1010 : decode cL_law 1010 = .ok (.i2l, 1) := dB_892.2.2.2.2.2.1
theorem dL_law_1011 : decode cL_law 1011 = .ok (.ldc2_w 127, 3) := dB_892.2.2.2.2.2.2.1
theorem dL_law_1014 : decode cL_law 1014 = .ok (.land, 1) := dB_892.2.2.2.2.2.2.2.1
theorem dL_law_1015 : decode cL_law 1015 = .ok (.lor, 1) := dB_892.2.2.2.2.2.2.2.2.1
theorem dL_law_1016 : decode cL_law 1016 = .ok (.aload_n 0, 1) := dB_892.2.2.2.2.2.2.2.2.2.1
theorem dL_law_1017 : decode cL_law 1017 = .ok (.iload_n 3, 1) := dB_892.2.2.2.2.2.2.2.2.2.2.1
theorem dL_law_1018 : decode cL_law 1018 = .ok (.iconst 3, 1) := dB_892.2.2.2.2.2.2.2.2.2.2.2.1
theorem dL_law_1019 : decode cL_law 1019 = .ok (.iadd, 1) := dB_892.2.2.2.2.2.2.2.2.2.2.2.2.1
theorem dL_law_1020 : decode cL_law 1020 = .ok (.iaload, 1) := dB_892.2.2.2.2.2.2.2.2.2.2.2.2.2.1
theorem dL_law_1024 : decode cL_law 1024 = .ok (.pop, 1) := dB_892.2.2.2.2.2.2.2.2.2.2.2.2.2.2.1
theorem dL_law_1025 : decode cL_law 1025 = .ok (.goto 431, 3) := dB_892.2.2.2.2.2.2.2.2.2.2.2.2.2.2.2
theorem dB_893 : (decode cL_law 1028 = .ok (.aload_n 1, 1)) ∧ (decode cL_law 1029 = .ok (.aload_n 0, 1)) ∧ (decode cL_law 1030 = .ok (.iload_n 3, 1)) ∧ (decode cL_law 1031 = .ok (.iconst 1, 1)) ∧ (decode cL_law 1032 = .ok (.iadd, 1)) ∧ (decode cL_law 1033 = .ok (.iaload, 1)) ∧ (decode cL_law 1034 = .ok (.aload_n 0, 1)) ∧ (decode cL_law 1035 = .ok (.iload_n 3, 1)) ∧ (decode cL_law 1036 = .ok (.iconst 2, 1)) ∧ (decode cL_law 1037 = .ok (.iadd, 1)) ∧ (decode cL_law 1038 = .ok (.iaload, 1)) ∧ (decode cL_law 1039 = .ok (.aload_n 0, 1)) ∧ (decode cL_law 1040 = .ok (.iload_n 3, 1)) ∧ (decode cL_law 1041 = .ok (.iconst 3, 1)) ∧ (decode cL_law 1042 = .ok (.iadd, 1)) ∧ (decode cL_law 1043 = .ok (.iaload, 1)) := by decide +kernel
theorem dL_law_1028 : decode cL_law 1028 = .ok (.aload_n 1, 1) := dB_893.1
theorem dL_law_1029 : decode cL_law 1029 = .ok (.aload_n 0, 1) := dB_893.2.1
theorem dL_law_1030 : decode cL_law 1030 = .ok (.iload_n 3, 1) := dB_893.2.2.1
theorem dL_law_1031 : decode cL_law 1031 = .ok (.iconst 1, 1) := dB_893.2.2.2.1
theorem dL_law_1032 : decode cL_law 1032 = .ok (.iadd, 1) := dB_893.2.2.2.2.1
theorem dL_law_1033 : decode cL_law 1033 = .ok (.iaload, 1) := dB_893.2.2.2.2.2.1
theorem dL_law_1034 : decode cL_law 1034 = .ok (.aload_n 0, 1) := dB_893.2.2.2.2.2.2.1
theorem dL_law_1035 : decode cL_law 1035 = .ok (.iload_n 3, 1) := dB_893.2.2.2.2.2.2.2.1
theorem dL_law_1036 : decode cL_law 1036 = .ok (.iconst 2, 1) := dB_893.2.2.2.2.2.2.2.2.1
theorem dL_law_1037 : decode cL_law 1037 = .ok (.iadd, 1) := dB_893.2.2.2.2.2.2.2.2.2.1
theorem dL_law_1038 : decode cL_law 1038 = .ok (.iaload, 1) := dB_893.2.2.2.2.2.2.2.2.2.2.1
theorem dL_law_1039 : decode cL_law 1039 = .ok (.aload_n 0, 1) := dB_893.2.2.2.2.2.2.2.2.2.2.2.1
theorem dL_law_1040 : decode cL_law 1040 = .ok (.iload_n 3, 1) := dB_893.2.2.2.2.2.2.2.2.2.2.2.2.1
theorem dL_law_1041 : decode cL_law 1041 = .ok (.iconst 3, 1) := dB_893.2.2.2.2.2.2.2.2.2.2.2.2.2.1
theorem dL_law_1042 : decode cL_law 1042 = .ok (.iadd, 1) := dB_893.2.2.2.2.2.2.2.2.2.2.2.2.2.2.1
theorem dL_law_1043 : decode cL_law 1043 = .ok (.iaload, 1) := dB_893.2.2.2.2.2.2.2.2.2.2.2.2.2.2.2
theorem dB_894 : (decode cL_law 1047 = .ok (.pop, 1)) ∧ (decode cL_law 1048 = .ok (.aload_n 2, 1)) ∧ (decode cL_law 1049 = .ok (.aload_n 0, 1)) ∧ (decode cL_law 1050 = .ok (.iload_n 3, 1)) ∧ (decode cL_law 1051 = .ok (.iconst 1, 1)) ∧ (decode cL_law 1052 = .ok (.iadd, 1)) ∧ (decode cL_law 1053 = .ok (.iaload, 1)) ∧ (decode cL_law 1054 = .ok (.aload_n 0, 1)) ∧ (decode cL_law 1055 = .ok (.iload_n 3, 1)) ∧ (decode cL_law 1056 = .ok (.iconst 2, 1)) ∧ (decode cL_law 1057 = .ok (.iadd, 1)) := by decide +kernel
theorem dL_law_1047 : decode cL_law 1047 = .ok (.pop, 1) := dB_894.1
theorem dL_law_1048 : decode cL_law 1048 = .ok (.aload_n 2, 1) := dB_894.2.1
theorem dL_law_1049 : decode cL_law 1049 = .ok (.aload_n 0, 1) := dB_894.2.2.1
theorem dL_law_1050 : decode cL_law 1050 = .ok (.iload_n 3, 1) := dB_894.2.2.2.1
theorem dL_law_1051 : decode cL_law 1051 = .ok (.iconst 1, 1) := dB_894.2.2.2.2.1
theorem dL_law_1052 : decode cL_law 1052 = .ok (.iadd, 1) := dB_894.2.2.2.2.2.1
theorem dL_law_1053 : decode cL_law 1053 = .ok (.iaload, 1) := dB_894.2.2.2.2.2.2.1
theorem dL_law_1054 : decode cL_law 1054 = .ok (.aload_n 0, 1) := dB_894.2.2.2.2.2.2.2.1
theorem dL_law_1055 : decode cL_law 1055 = .ok (.iload_n 3, 1) := dB_894.2.2.2.2.2.2.2.2.1
theorem dL_law_1056 : decode cL_law 1056 = .ok (.iconst 2, 1) := dB_894.2.2.2.2.2.2.2.2.2.1
theorem dL_law_1057 : decode cL_law 1057 = .ok (.iadd, 1) := dB_894.2.2.2.2.2.2.2.2.2.2
end
section
theorem dB_895 : (decode cL_law 1058 = .ok (.iaload, 1)) ∧ (decode cL_law 1059 = .ok (.aload_n 0, 1)) ∧ (decode cL_law 1060 = .ok (.iload_n 3, 1)) ∧ (decode cL_law 1061 = .ok (.iconst 3, 1)) ∧ (decode cL_law 1062 = .ok (.iadd, 1)) ∧ (decode cL_law 1063 = .ok (.iaload, 1)) ∧ (decode cL_law 1067 = .ok (.pop, 1)) ∧ (decode cL_law 1068 = .ok (.goto 388, 3)) ∧ (decode cL_law 1071 = .ok (.aload_n 1, 1)) ∧ (decode cL_law 1072 = .ok (.aload_n 0, 1)) ∧ (decode cL_law 1073 = .ok (.iload_n 3, 1)) ∧ (decode cL_law 1074 = .ok (.iconst 1, 1)) ∧ (decode cL_law 1075 = .ok (.iadd, 1)) ∧ (decode cL_law 1076 = .ok (.iaload, 1)) ∧ (decode cL_law 1077 = .ok (.aload_n 0, 1)) ∧ (decode cL_law 1078 = .ok (.iload_n 3, 1)) := by decide +kernel
theorem dL_law_1058 : decode cL_law 1058 = .ok (.iaload, 1) := dB_895.1
theorem dL_law_1059 : decode cL_law 1059 = .ok (.aload_n 0, 1) := dB_895.2.1
theorem dL_law_1060 : decode cL_law 1060 = .ok (.iload_n 3, 1) := dB_895.2.2.1
theorem dL_law_1061 : decode cL_law 1061 = .ok (.iconst 3, 1) := dB_895.2.2.2.1
theorem dL_law_1062 : decode cL_law 1062 = .ok (.iadd, 1) := dB_895.2.2.2.2.1
theorem dL_law_1063 : decode cL_law 1063 = .ok (.iaload, 1) := dB_895.2.2.2.2.2.1
theorem dL_law_1067 : decode cL_law 1067 = .ok (.pop, 1) := dB_895.2.2.2.2.2.2.1
theorem dL_law_1068 : decode cL_law 1068 = .ok (.goto 388, 3) := dB_895.2.2.2.2.2.2.2.1
theorem dL_law_1071 : decode cL_law 1071 = .ok (.aload_n 1, 1) := dB_895.2.2.2.2.2.2.2.2.1
theorem dL_law_1072 : decode cL_law 1072 = .ok (.aload_n 0, 1) := dB_895.2.2.2.2.2.2.2.2.2.1
theorem dL_law_1073 : decode cL_law 1073 = .ok (.iload_n 3, 1) := dB_895.2.2.2.2.2.2.2.2.2.2.1
theorem dL_law_1074 : decode cL_law 1074 = .ok (.iconst 1, 1) := dB_895.2.2.2.2.2.2.2.2.2.2.2.1
theorem dL_law_1075 : decode cL_law 1075 = .ok (.iadd, 1) := dB_895.2.2.2.2.2.2.2.2.2.2.2.2.1
theorem dL_law_1076 : decode cL_law 1076 = .ok (.iaload, 1) := dB_895.2.2.2.2.2.2.2.2.2.2.2.2.2.1
theorem dL_law_1077 : decode cL_law 1077 = .ok (.aload_n 0, 1) := dB_895.2.2.2.2.2.2.2.2.2.2.2.2.2.2.1
theorem dL_law_1078 : decode cL_law 1078 = .ok (.iload_n 3, 1) := dB_895.2.2.2.2.2.2.2.2.2.2.2.2.2.2.2
theorem dB_896 : (decode cL_law 1079 = .ok (.iconst 2, 1)) ∧ (decode cL_law 1080 = .ok (.iadd, 1)) ∧ (decode cL_law 1081 = .ok (.iaload, 1)) ∧ (decode cL_law 1085 = .ok (.pop, 1)) ∧ (decode cL_law 1086 = .ok (.aload_n 2, 1)) ∧ (decode cL_law 1087 = .ok (.aload_n 0, 1)) ∧ (decode cL_law 1088 = .ok (.iload_n 3, 1)) ∧ (decode cL_law 1089 = .ok (.iconst 1, 1)) ∧ (decode cL_law 1090 = .ok (.iadd, 1)) ∧ (decode cL_law 1091 = .ok (.iaload, 1)) ∧ (decode cL_law 1092 = .ok (.aload_n 0, 1)) ∧ (decode cL_law 1093 = .ok (.iload_n 3, 1)) ∧ (decode cL_law 1094 = .ok (.iconst 2, 1)) ∧ (decode cL_law 1095 = .ok (.iadd, 1)) ∧ (decode cL_law 1096 = .ok (.iaload, 1)) ∧ (decode cL_law 1100 = .ok (.pop, 1)) := by decide +kernel
theorem dL_law_1079 : decode cL_law 1079 = .ok (.iconst 2, 1) := dB_896.1
theorem dL_law_1080 : decode cL_law 1080 = .ok (.iadd, 1) := dB_896.2.1
theorem dL_law_1081 : decode cL_law 1081 = .ok (.iaload, 1) := dB_896.2.2.1
theorem dL_law_1085 : decode cL_law 1085 = .ok (.pop, 1) := dB_896.2.2.2.1
theorem dL_law_1086 : decode cL_law 1086 = .ok (.aload_n 2, 1) := dB_896.2.2.2.2.1
theorem dL_law_1087 : decode cL_law 1087 = .ok (.aload_n 0, 1) := dB_896.2.2.2.2.2.1
theorem dL_law_1088 : decode cL_law 1088 = .ok (.iload_n 3, 1) := dB_896.2.2.2.2.2.2.1
theorem dL_law_1089 : decode cL_law 1089 = .ok (.iconst 1, 1) := dB_896.2.2.2.2.2.2.2.1
theorem dL_law_1090 : decode cL_law 1090 = .ok (.iadd, 1) := dB_896.2.2.2.2.2.2.2.2.1
theorem dL_law_1091 : decode cL_law 1091 = .ok (.iaload, 1) := dB_896.2.2.2.2.2.2.2.2.2.1
theorem dL_law_1092 : decode cL_law 1092 = .ok (.aload_n 0, 1) := dB_896.2.2.2.2.2.2.2.2.2.2.1
theorem dL_law_1093 : decode cL_law 1093 = .ok (.iload_n 3, 1) := dB_896.2.2.2.2.2.2.2.2.2.2.2.1
theorem dL_law_1094 : decode cL_law 1094 = .ok (.iconst 2, 1) := dB_896.2.2.2.2.2.2.2.2.2.2.2.2.1
theorem dL_law_1095 : decode cL_law 1095 = .ok (.iadd, 1) := dB_896.2.2.2.2.2.2.2.2.2.2.2.2.2.1
theorem dL_law_1096 : decode cL_law 1096 = .ok (.iaload, 1) := dB_896.2.2.2.2.2.2.2.2.2.2.2.2.2.2.1
theorem dL_law_1100 : decode cL_law 1100 = .ok (.pop, 1) := dB_896.2.2.2.2.2.2.2.2.2.2.2.2.2.2.2
theorem dB_897 : (decode cL_law 1101 = .ok (.goto 355, 3)) ∧ (decode cL_law 1104 = .ok (.aload_n 1, 1)) ∧ (decode cL_law 1108 = .ok (.pop, 1)) ∧ (decode cL_law 1109 = .ok (.aload_n 2, 1)) ∧ (decode cL_law 1113 = .ok (.pop, 1)) ∧ (decode cL_law 1114 = .ok (.goto 342, 3)) ∧ (decode cL_law 1117 = .ok (.aload_n 1, 1)) ∧ (decode cL_law 1121 = .ok (.pop2, 1)) ∧ (decode cL_law 1122 = .ok (.aload_n 2, 1)) ∧ (decode cL_law 1126 = .ok (.pop2, 1)) ∧ (decode cL_law 1127 = .ok (.goto 329, 3)) ∧ (decode cL_law 1130 = .ok (.aload_n 1, 1)) ∧ (decode cL_law 1131 = .ok (.aload_n 0, 1)) ∧ (decode cL_law 1132 = .ok (.iload_n 3, 1)) ∧ (decode cL_law 1133 = .ok (.iconst 1, 1)) ∧ (decode cL_law 1134 = .ok (.iadd, 1)) := by decide +kernel
theorem dL_law_1101 : decode cL_law 1101 = .ok (.goto 355, 3) := dB_897.1
theorem dL_law_1104 : decode cL_law 1104 = .ok (.aload_n 1, 1) := dB_897.2.1
theorem dL_law_1108 : decode cL_law 1108 = .ok (.pop, 1) := dB_897.2.2.1
theorem dL_law_1109 : decode cL_law 1109 = .ok (.aload_n 2, 1) := dB_897.2.2.2.1
theorem dL_law_1113 : decode cL_law 1113 = .ok (.pop, 1) := dB_897.2.2.2.2.1
theorem dL_law_1114 : decode cL_law 1114 = .ok (.goto 342, 3) := dB_897.2.2.2.2.2.1
theorem dL_law_1117 : decode cL_law 1117 = .ok (.aload_n 1, 1) := dB_897.2.2.2.2.2.2.1
theorem dL_law_1121 : decode cL_law 1121 = .ok (.pop2, 1) := dB_897.2.2.2.2.2.2.2.1
theorem dL_law_1122 : decode cL_law 1122 = .ok (.aload_n 2, 1) := dB_897.2.2.2.2.2.2.2.2.1
theorem dL_law_1126 : decode cL_law 1126 = .ok (.pop2, 1) := dB_897.2.2.2.2.2.2.2.2.2.1
theorem dL_law_1127 : decode cL_law 1127 = .ok (.goto 329, 3) := dB_897.2.2.2.2.2.2.2.2.2.2.1
theorem dL_law_1130 : decode cL_law 1130 = .ok (.aload_n 1, 1) := dB_897.2.2.2.2.2.2.2.2.2.2.2.1
theorem dL_law_1131 : decode cL_law 1131 = .ok (.aload_n 0, 1) := dB_897.2.2.2.2.2.2.2.2.2.2.2.2.1
theorem dL_law_1132 : decode cL_law 1132 = .ok (.iload_n 3, 1) := dB_897.2.2.2.2.2.2.2.2.2.2.2.2.2.1
theorem dL_law_1133 : decode cL_law 1133 = .ok (.iconst 1, 1) := dB_897.2.2.2.2.2.2.2.2.2.2.2.2.2.2.1
theorem dL_law_1134 : decode cL_law 1134 = .ok (.iadd, 1) := dB_897.2.2.2.2.2.2.2.2.2.2.2.2.2.2.2
theorem dB_898 : (decode cL_law 1135 = .ok (.iaload, 1)) ∧ (decode cL_law 1139 = .ok (.pop, 1)) ∧ (decode cL_law 1140 = .ok (.aload_n 2, 1)) ∧ (decode cL_law 1141 = .ok (.aload_n 0, 1)) ∧ (decode cL_law 1142 = .ok (.iload_n 3, 1)) ∧ (decode cL_law 1143 = .ok (.iconst 1, 1)) ∧ (decode cL_law 1144 = .ok (.iadd, 1)) ∧ (decode cL_law 1145 = .ok (.iaload, 1)) ∧ (decode cL_law 1149 = .ok (.pop, 1)) ∧ (decode cL_law 1150 = .ok (.goto 306, 3)) ∧ (decode cL_law 1153 = .ok (.aload_n 1, 1)) ∧ (decode cL_law 1154 = .ok (.aload_n 0, 1)) ∧ (decode cL_law 1155 = .ok (.iload_n 3, 1)) ∧ (decode cL_law 1156 = .ok (.iconst 1, 1)) ∧ (decode cL_law 1157 = .ok (.iadd, 1)) ∧ (decode cL_law 1158 = .ok (.iaload, 1)) := by decide +kernel
theorem dL_law_1135 : decode cL_law 1135 = .ok (.iaload, 1) := dB_898.1
theorem dL_law_1139 : decode cL_law 1139 = .ok (.pop, 1) := dB_898.2.1
theorem dL_law_1140 : decode cL_law 1140 = .ok (.aload_n 2, 1) := dB_898.2.2.1
theorem dL_law_1141 : decode cL_law 1141 = .ok (.aload_n 0, 1) := dB_898.2.2.2.1
theorem dL_law_1142 : decode cL_law 1142 = .ok (.iload_n 3, 1) := dB_898.2.2.2.2.1
theorem dL_law_1143 : decode cL_law 1143 = .ok (.iconst 1, 1) := dB_898.2.2.2.2.2.1
theorem dL_law_1144 : decode cL_law 1144 = .ok (.iadd, 1) := dB_898.2.2.2.2.2.2.1
theorem dL_law_1145 : decode cL_law 1145 = .ok (.iaload, 1) := dB_898.2.2.2.2.2.2.2.1
theorem dL_law_1149 : decode cL_law 1149 = .ok (.pop, 1) := dB_898.2.2.2.2.2.2.2.2.1
theorem dL_law_1150 : decode cL_law 1150 = .ok (.goto 306, 3) := dB_898.2.2.2.2.2.2.2.2.2.1
theorem dL_law_1153 : decode cL_law 1153 = .ok (.aload_n 1, 1) := dB_898.2.2.2.2.2.2.2.2.2.2.1
theorem dL_law_1154 : decode cL_law 1154 = .ok (.aload_n 0, 1) := dB_898.2.2.2.2.2.2.2.2.2.2.2.1
theorem dL_law_1155 : decode cL_law 1155 = .ok (.iload_n 3, 1) := dB_898.2.2.2.2.2.2.2.2.2.2.2.2.1
theorem dL_law_1156 : decode cL_law 1156 = .ok (.iconst 1, 1) := dB_898.2.2.2.2.2.2.2.2.2.2.2.2.2.1
theorem dL_law_1157 : decode cL_law 1157 = .ok (.iadd, 1) := dB_898.2.2.2.2.2.2.2.2.2.2.2.2.2.2.1
theorem dL_law_1158 : decode cL_law 1158 = .ok (.iaload, 1) := dB_898.2.2.2.2.2.2.2.2.2.2.2.2.2.2.2
theorem dB_899 : (decode cL_law 1159 = .ok (.aload_n 0, 1)) ∧ (decode cL_law 1160 = .ok (.iload_n 3, 1)) ∧ (decode cL_law 1161 = .ok (.iconst 2, 1)) ∧ (decode cL_law 1162 = .ok (.iadd, 1)) ∧ (decode cL_law 1163 = .ok (.iaload, 1)) ∧ (decode cL_law 1167 = .ok (.pop, 1)) ∧ (decode cL_law 1168 = .ok (.aload_n 2, 1)) ∧ (decode cL_law 1169 = .ok (.aload_n 0, 1)) ∧ (decode cL_law 1170 = .ok (.iload_n 3, 1)) ∧ (decode cL_law 1171 = .ok (.iconst 1, 1)) ∧ (decode cL_law 1172 = .ok (.iadd, 1)) ∧ (decode cL_law 1173 = .ok (.iaload, 1)) ∧ (decode cL_law 1174 = .ok (.aload_n 0, 1)) ∧ (decode cL_law 1175 = .ok (.iload_n 3, 1)) ∧ (decode cL_law 1176 = .ok (.iconst 2, 1)) ∧ (decode cL_law 1177 = .ok (.iadd, 1)) := by decide +kernel
theorem dL_law_1159 : decode cL_law 1159 = .ok (.aload_n 0, 1) := dB_899.1
theorem dL_law_1160 : decode cL_law 1160 = .ok (.iload_n 3, 1) := dB_899.2.1
theorem dL_law_1161 : decode cL_law 1161 = .ok (.iconst 2, 1) := dB_899.2.2.1
theorem dL_law_1162 : decode cL_law 1162 = .ok (.iadd, 1) := dB_899.2.2.2.1
theorem dL_law_1163 : decode cL_law 1163 = .ok (.iaload, 1) := dB_899.2.2.2.2.1
theorem dL_law_1167 : decode cL_law 1167 = .ok (.pop, 1) := dB_899.2.2.2.2.2.1
theorem dL_law_1168 : decode cL_law 1168 = .ok (.aload_n 2, 1) := dB_899.2.2.2.2.2.2.1
theorem dL_law_1169 : decode cL_law 1169 = .ok (.aload_n 0, 1) := dB_899.2.2.2.2.2.2.2.1
theorem dL_law_1170 : decode cL_law 1170 = .ok (.iload_n 3, 1) := dB_899.2.2.2.2.2.2.2.2.1
theorem dL_law_1171 : decode cL_law 1171 = .ok (.iconst 1, 1) := dB_899.2.2.2.2.2.2.2.2.2.1
theorem dL_law_1172 : decode cL_law 1172 = .ok (.iadd, 1) := dB_899.2.2.2.2.2.2.2.2.2.2.1
theorem dL_law_1173 : decode cL_law 1173 = .ok (.iaload, 1) := dB_899.2.2.2.2.2.2.2.2.2.2.2.1
theorem dL_law_1174 : decode cL_law 1174 = .ok (.aload_n 0, 1) := dB_899.2.2.2.2.2.2.2.2.2.2.2.2.1
theorem dL_law_1175 : decode cL_law 1175 = .ok (.iload_n 3, 1) := dB_899.2.2.2.2.2.2.2.2.2.2.2.2.2.1
theorem dL_law_1176 : decode cL_law 1176 = .ok (.iconst 2, 1) := dB_899.2.2.2.2.2.2.2.2.2.2.2.2.2.2.1
theorem dL_law_1177 : decode cL_law 1177 = .ok (.iadd, 1) := dB_899.2.2.2.2.2.2.2.2.2.2.2.2.2.2.2
theorem dB_900 : (decode cL_law 1178 = .ok (.iaload, 1)) ∧ (decode cL_law 1182 = .ok (.pop, 1)) ∧ (decode cL_law 1183 = .ok (.goto 273, 3)) ∧ (decode cL_law 1186 = .ok (.aload_n 1, 1)) ∧ (decode cL_law 1187 = .ok (.aload_n 0, 1)) ∧ (decode cL_law 1188 = .ok (.iload_n 3, 1)) ∧ (decode cL_law 1189 = .ok (.iconst 1, 1)) ∧ (decode cL_law 1190 = .ok (.iadd, 1)) ∧ (decode cL_law 1191 = .ok (.iaload, 1)) ∧ (decode cL_law 1195 = .ok (.pop, 1)) ∧ (decode cL_law 1196 = .ok (.aload_n 2, 1)) ∧ (decode cL_law 1197 = .ok (.aload_n 0, 1)) ∧ (decode cL_law 1198 = .ok (.iload_n 3, 1)) ∧ (decode cL_law 1199 = .ok (.iconst 1, 1)) ∧ (decode cL_law 1200 = .ok (.iadd, 1)) ∧ (decode cL_law 1201 = .ok (.iaload, 1)) := by decide +kernel
theorem dL_law_1178 : decode cL_law 1178 = .ok (.iaload, 1) := dB_900.1
theorem dL_law_1182 : decode cL_law 1182 = .ok (.pop, 1) := dB_900.2.1
theorem dL_law_1183 : decode cL_law 1183 = .ok (.goto 273, 3) := dB_900.2.2.1
theorem dL_law_1186 : decode cL_law 1186 = .ok (.aload_n 1, 1) := dB_900.2.2.2.1
theorem dL_law_1187 : decode cL_law 1187 = .ok (.aload_n 0, 1) := dB_900.2.2.2.2.1
theorem dL_law_1188 : decode cL_law 1188 = .ok (.iload_n 3, 1) := dB_900.2.2.2.2.2.1
theorem dL_law_1189 : decode cL_law 1189 = .ok (.iconst 1, 1) := dB_900.2.2.2.2.2.2.1
theorem dL_law_1190 : decode cL_law 1190 = .ok (.iadd, 1) := dB_900.2.2.2.2.2.2.2.1
theorem dL_law_1191 : decode cL_law 1191 = .ok (.iaload, 1) := dB_900.2.2.2.2.2.2.2.2.1
theorem dL_law_1195 : decode cL_law 1195 = .ok (.pop, 1) := dB_900.2.2.2.2.2.2.2.2.2.1
theorem dL_law_1196 : decode cL_law 1196 = .ok (.aload_n 2, 1) := dB_900.2.2.2.2.2.2.2.2.2.2.1
theorem dL_law_1197 : decode cL_law 1197 = .ok (.aload_n 0, 1) := dB_900.2.2.2.2.2.2.2.2.2.2.2.1
theorem dL_law_1198 : decode cL_law 1198 = .ok (.iload_n 3, 1) := dB_900.2.2.2.2.2.2.2.2.2.2.2.2.1
theorem dL_law_1199 : decode cL_law 1199 = .ok (.iconst 1, 1) := dB_900.2.2.2.2.2.2.2.2.2.2.2.2.2.1
theorem dL_law_1200 : decode cL_law 1200 = .ok (.iadd, 1) := dB_900.2.2.2.2.2.2.2.2.2.2.2.2.2.2.1
theorem dL_law_1201 : decode cL_law 1201 = .ok (.iaload, 1) := dB_900.2.2.2.2.2.2.2.2.2.2.2.2.2.2.2
theorem dB_901 : (decode cL_law 1205 = .ok (.pop, 1)) ∧ (decode cL_law 1206 = .ok (.goto 250, 3)) ∧ (decode cL_law 1209 = .ok (.aload_n 1, 1)) ∧ (decode cL_law 1210 = .ok (.aload_n 0, 1)) ∧ (decode cL_law 1211 = .ok (.iload_n 3, 1)) ∧ (decode cL_law 1212 = .ok (.iconst 1, 1)) ∧ (decode cL_law 1213 = .ok (.iadd, 1)) ∧ (decode cL_law 1214 = .ok (.iaload, 1)) ∧ (decode cL_law 1215 = .ok (.aload_n 0, 1)) ∧ (decode cL_law 1216 = .ok (.iload_n 3, 1)) ∧ (decode cL_law 1217 = .ok (.iconst 2, 1)) ∧ (decode cL_law 1218 = .ok (.iadd, 1)) ∧ (decode cL_law 1219 = .ok (.iaload, 1)) ∧ (decode cL_law 1223 = .ok (.pop2, 1)) ∧ (decode cL_law 1224 = .ok (.aload_n 2, 1)) ∧ (decode cL_law 1225 = .ok (.aload_n 0, 1)) := by decide +kernel
theorem dL_law_1205 : decode cL_law 1205 = .ok (.pop, 1) := dB_901.1
theorem dL_law_1206 : decode cL_law 1206 = .ok (.goto 250, 3) := dB_901.2.1
theorem dL_law_1209 : decode cL_law 1209 = .ok (.aload_n 1, 1) := dB_901.2.2.1
theorem dL_law_1210 : decode cL_law 1210 = .ok (.aload_n 0, 1) := dB_901.2.2.2.1
theorem dL_law_1211 : decode cL_law 1211 = .ok (.iload_n 3, 1) := dB_901.2.2.2.2.1
theorem dL_law_1212 : decode cL_law 1212 = .ok (.iconst 1, 1) := dB_901.2.2.2.2.2.1
theorem dL_law_1213 : decode cL_law 1213 = .ok (.iadd, 1) := dB_901.2.2.2.2.2.2.1
theorem dL_law_1214 : decode cL_law 1214 = .ok (.iaload, 1) := dB_901.2.2.2.2.2.2.2.1
theorem dL_law_1215 : decode cL_law 1215 = .ok (.aload_n 0, 1) := dB_901.2.2.2.2.2.2.2.2.1
theorem dL_law_1216 : decode cL_law 1216 = .ok (.iload_n 3, 1) := dB_901.2.2.2.2.2.2.2.2.2.1
theorem dL_law_1217 : decode cL_law 1217 = .ok (.iconst 2, 1) := dB_901.2.2.2.2.2.2.2.2.2.2.1
theorem dL_law_1218 : decode cL_law 1218 = .ok (.iadd, 1) := dB_901.2.2.2.2.2.2.2.2.2.2.2.1
theorem dL_law_1219 : decode cL_law 1219 = .ok (.iaload, 1) := dB_901.2.2.2.2.2.2.2.2.2.2.2.2.1
theorem dL_law_1223 : decode cL_law 1223 = .ok (.pop2, 1) := dB_901.2.2.2.2.2.2.2.2.2.2.2.2.2.1
theorem dL_law_1224 : decode cL_law 1224 = .ok (.aload_n 2, 1) := dB_901.2.2.2.2.2.2.2.2.2.2.2.2.2.2.1
theorem dL_law_1225 : decode cL_law 1225 = .ok (.aload_n 0, 1) := dB_901.2.2.2.2.2.2.2.2.2.2.2.2.2.2.2
theorem dB_902 : (decode cL_law 1226 = .ok (.iload_n 3, 1)) ∧ (decode cL_law 1227 = .ok (.iconst 1, 1)) ∧ (decode cL_law 1228 = .ok (.iadd, 1)) ∧ (decode cL_law 1229 = .ok (.iaload, 1)) ∧ (decode cL_law 1230 = .ok (.aload_n 0, 1)) ∧ (decode cL_law 1231 = .ok (.iload_n 3, 1)) ∧ (decode cL_law 1232 = .ok (.iconst 2, 1)) ∧ (decode cL_law 1233 = .ok (.iadd, 1)) ∧ (decode cL_law 1234 = .ok (.iaload, 1)) ∧ (decode cL_law 1238 = .ok (.pop2, 1)) ∧ (decode cL_law 1239 = .ok (.goto 217, 3)) ∧ (decode cL_law 1242 = .ok (.aload_n 1, 1)) ∧ (decode cL_law 1243 = .ok (.aload_n 0, 1)) ∧ (decode cL_law 1244 = .ok (.iload_n 3, 1)) ∧ (decode cL_law 1245 = .ok (.iconst 1, 1)) ∧ (decode cL_law 1246 = .ok (.iadd, 1)) := by decide +kernel
theorem dL_law_1226 : decode cL_law 1226 = .ok (.iload_n 3, 1) := dB_902.1
theorem dL_law_1227 : decode cL_law 1227 = .ok (.iconst 1, 1) := dB_902.2.1
theorem dL_law_1228 : decode cL_law 1228 = .ok (.iadd, 1) := dB_902.2.2.1
theorem dL_law_1229 : decode cL_law 1229 = .ok (.iaload, 1) := dB_902.2.2.2.1
theorem dL_law_1230 : decode cL_law 1230 = .ok (.aload_n 0, 1) := dB_902.2.2.2.2.1
theorem dL_law_1231 : decode cL_law 1231 = .ok (.iload_n 3, 1) := dB_902.2.2.2.2.2.1
theorem dL_law_1232 : decode cL_law 1232 = .ok (.iconst 2, 1) := dB_902.2.2.2.2.2.2.1
theorem dL_law_1233 : decode cL_law 1233 = .ok (.iadd, 1) := dB_902.2.2.2.2.2.2.2.1
theorem dL_law_1234 : decode cL_law 1234 = .ok (.iaload, 1) := dB_902.2.2.2.2.2.2.2.2.1
theorem dL_law_1238 : decode cL_law 1238 = .ok (.pop2, 1) := dB_902.2.2.2.2.2.2.2.2.2.1
theorem dL_law_1239 : decode cL_law 1239 = .ok (.goto 217, 3) := dB_902.2.2.2.2.2.2.2.2.2.2.1
theorem dL_law_1242 : decode cL_law 1242 = .ok (.aload_n 1, 1) := dB_902.2.2.2.2.2.2.2.2.2.2.2.1
theorem dL_law_1243 : decode cL_law 1243 = .ok (.aload_n 0, 1) := dB_902.2.2.2.2.2.2.2.2.2.2.2.2.1
theorem dL_law_1244 : decode cL_law 1244 = .ok (.iload_n 3, 1) := dB_902.2.2.2.2.2.2.2.2.2.2.2.2.2.1
theorem dL_law_1245 : decode cL_law 1245 = .ok (.iconst 1, 1) := dB_902.2.2.2.2.2.2.2.2.2.2.2.2.2.2.1
theorem dL_law_1246 : decode cL_law 1246 = .ok (.iadd, 1) := dB_902.2.2.2.2.2.2.2.2.2.2.2.2.2.2.2
theorem dB_903 : (decode cL_law 1247 = .ok (.iaload, 1)) ∧ (decode cL_law 1248 = .ok (.aload_n 0, 1)) ∧ (decode cL_law 1249 = .ok (.iload_n 3, 1)) ∧ (decode cL_law 1250 = .ok (.iconst 2, 1)) ∧ (decode cL_law 1251 = .ok (.iadd, 1)) ∧ (decode cL_law 1252 = .ok (.iaload, 1)) ∧ (decode cL_law 1253 = .ok (.aload_n 0, 1)) ∧ (decode cL_law 1254 = .ok (.iload_n 3, 1)) ∧ (decode cL_law 1255 = .ok (.iconst 3, 1)) ∧ (decode cL_law 1256 = .ok (.iadd, 1)) ∧ (decode cL_law 1257 = .ok (.iaload, 1)) ∧ (decode cL_law 1261 = .ok (.pop2, 1)) ∧ (decode cL_law 1262 = .ok (.aload_n 2, 1)) ∧ (decode cL_law 1263 = .ok (.aload_n 0, 1)) ∧ (decode cL_law 1264 = .ok (.iload_n 3, 1)) ∧ (decode cL_law 1265 = .ok (.iconst 1, 1)) := by decide +kernel
theorem dL_law_1247 : decode cL_law 1247 = .ok (.iaload, 1) := dB_903.1
theorem dL_law_1248 : decode cL_law 1248 = .ok (.aload_n 0, 1) := dB_903.2.1
theorem dL_law_1249 : decode cL_law 1249 = .ok (.iload_n 3, 1) := dB_903.2.2.1
theorem dL_law_1250 : decode cL_law 1250 = .ok (.iconst 2, 1) := dB_903.2.2.2.1
theorem dL_law_1251 : decode cL_law 1251 = .ok (.iadd, 1) := dB_903.2.2.2.2.1
theorem dL_law_1252 : decode cL_law 1252 = .ok (.iaload, 1) := dB_903.2.2.2.2.2.1
theorem dL_law_1253 : decode cL_law 1253 = .ok (.aload_n 0, 1) := dB_903.2.2.2.2.2.2.1
theorem dL_law_1254 : decode cL_law 1254 = .ok (.iload_n 3, 1) := dB_903.2.2.2.2.2.2.2.1
theorem dL_law_1255 : decode cL_law 1255 = .ok (.iconst 3, 1) := dB_903.2.2.2.2.2.2.2.2.1
theorem dL_law_1256 : decode cL_law 1256 = .ok (.iadd, 1) := dB_903.2.2.2.2.2.2.2.2.2.1
theorem dL_law_1257 : decode cL_law 1257 = .ok (.iaload, 1) := dB_903.2.2.2.2.2.2.2.2.2.2.1
theorem dL_law_1261 : decode cL_law 1261 = .ok (.pop2, 1) := dB_903.2.2.2.2.2.2.2.2.2.2.2.1
theorem dL_law_1262 : decode cL_law 1262 = .ok (.aload_n 2, 1) := dB_903.2.2.2.2.2.2.2.2.2.2.2.2.1
theorem dL_law_1263 : decode cL_law 1263 = .ok (.aload_n 0, 1) := dB_903.2.2.2.2.2.2.2.2.2.2.2.2.2.1
theorem dL_law_1264 : decode cL_law 1264 = .ok (.iload_n 3, 1) := dB_903.2.2.2.2.2.2.2.2.2.2.2.2.2.2.1
theorem dL_law_1265 : decode cL_law 1265 = .ok (.iconst 1, 1) := dB_903.2.2.2.2.2.2.2.2.2.2.2.2.2.2.2
theorem dB_904 : (decode cL_law 1266 = .ok (.iadd, 1)) ∧ (decode cL_law 1267 = .ok (.iaload, 1)) ∧ (decode cL_law 1268 = .ok (.aload_n 0, 1)) ∧ (decode cL_law 1269 = .ok (.iload_n 3, 1)) ∧ (decode cL_law 1270 = .ok (.iconst 2, 1)) ∧ (decode cL_law 1271 = .ok (.iadd, 1)) ∧ (decode cL_law 1272 = .ok (.iaload, 1)) ∧ (decode cL_law 1273 = .ok (.aload_n 0, 1)) ∧ (decode cL_law 1274 = .ok (.iload_n 3, 1)) ∧ (decode cL_law 1275 = .ok (.iconst 3, 1)) ∧ (decode cL_law 1276 = .ok (.iadd, 1)) ∧ (decode cL_law 1277 = .ok (.iaload, 1)) ∧ (decode cL_law 1281 = .ok (.pop2, 1)) ∧ (decode cL_law 1282 = .ok (.goto 174, 3)) ∧ (decode cL_law 1285 = .ok (.aload_n 1, 1)) ∧ (decode cL_law 1286 = .ok (.aload_n 0, 1)) := by decide +kernel
theorem dL_law_1266 : decode cL_law 1266 = .ok (.iadd, 1) := dB_904.1
theorem dL_law_1267 : decode cL_law 1267 = .ok (.iaload, 1) := dB_904.2.1
theorem dL_law_1268 : decode cL_law 1268 = .ok (.aload_n 0, 1) := dB_904.2.2.1
theorem dL_law_1269 : decode cL_law 1269 = .ok (.iload_n 3, 1) := dB_904.2.2.2.1
theorem dL_law_1270 : decode cL_law 1270 = .ok (.iconst 2, 1) := dB_904.2.2.2.2.1
theorem dL_law_1271 : decode cL_law 1271 = .ok (.iadd, 1) := dB_904.2.2.2.2.2.1
theorem dL_law_1272 : decode cL_law 1272 = .ok (.iaload, 1) := dB_904.2.2.2.2.2.2.1
theorem dL_law_1273 : decode cL_law 1273 = .ok (.aload_n 0, 1) := dB_904.2.2.2.2.2.2.2.1
theorem dL_law_1274 : decode cL_law 1274 = .ok (.iload_n 3, 1) := dB_904.2.2.2.2.2.2.2.2.1
theorem dL_law_1275 : decode cL_law 1275 = .ok (.iconst 3, 1) := dB_904.2.2.2.2.2.2.2.2.2.1
theorem dL_law_1276 : decode cL_law 1276 = .ok (.iadd, 1) := dB_904.2.2.2.2.2.2.2.2.2.2.1
theorem dL_law_1277 : decode cL_law 1277 = .ok (.iaload, 1) := dB_904.2.2.2.2.2.2.2.2.2.2.2.1
theorem dL_law_1281 : decode cL_law 1281 = .ok (.pop2, 1) := dB_904.2.2.2.2.2.2.2.2.2.2.2.2.1
theorem dL_law_1282 : decode cL_law 1282 = .ok (.goto 174, 3) := dB_904.2.2.2.2.2.2.2.2.2.2.2.2.2.1
theorem dL_law_1285 : decode cL_law 1285 = .ok (.aload_n 1, 1) := dB_904.2.2.2.2.2.2.2.2.2.2.2.2.2.2.1
theorem dL_law_1286 : decode cL_law 1286 = .ok (.aload_n 0, 1) := dB_904.2.2.2.2.2.2.2.2.2.2.2.2.2.2.2
theorem dB_905 : (decode cL_law 1287 = .ok (.iload_n 3, 1)) ∧ (decode cL_law 1288 = .ok (.iconst 1, 1)) ∧ (decode cL_law 1289 = .ok (.iadd, 1)) ∧ (decode cL_law 1290 = .ok (.iaload, 1)) ∧ (decode cL_law 1294 = .ok (.pop, 1)) ∧ (decode cL_law 1295 = .ok (.aload_n 2, 1)) ∧ (decode cL_law 1296 = .ok (.aload_n 0, 1)) ∧ (decode cL_law 1297 = .ok (.iload_n 3, 1)) ∧ (decode cL_law 1298 = .ok (.iconst 1, 1)) ∧ (decode cL_law 1299 = .ok (.iadd, 1)) ∧ (decode cL_law 1300 = .ok (.iaload, 1)) ∧ (decode cL_law 1304 = .ok (.pop, 1)) ∧ (decode cL_law 1305 = .ok (.goto 151, 3)) ∧ (decode cL_law 1308 = .ok (.aload_n 1, 1)) ∧ (decode cL_law 1309 = .ok (.aload_n 0, 1)) ∧ (decode cL_law 1310 = .ok (.iload_n 3, 1)) := by decide +kernel
theorem dL_law_1287 : decode cL_law 1287 = .ok (.iload_n 3, 1) := dB_905.1
theorem dL_law_1288 : decode cL_law 1288 = .ok (.iconst 1, 1) := dB_905.2.1
theorem dL_law_1289 : decode cL_law 1289 = .ok (.iadd, 1) := dB_905.2.2.1
theorem dL_law_1290 : decode cL_law 1290 = .ok (.iaload, 1) := dB_905.2.2.2.1
theorem dL_law_1294 : decode cL_law 1294 = .ok (.pop, 1) := dB_905.2.2.2.2.1
theorem dL_law_1295 : decode cL_law 1295 = .ok (.aload_n 2, 1) := dB_905.2.2.2.2.2.1
theorem dL_law_1296 : decode cL_law 1296 = .ok (.aload_n 0, 1) := dB_905.2.2.2.2.2.2.1
theorem dL_law_1297 : decode cL_law 1297 = .ok (.iload_n 3, 1) := dB_905.2.2.2.2.2.2.2.1
theorem dL_law_1298 : decode cL_law 1298 = .ok (.iconst 1, 1) := dB_905.2.2.2.2.2.2.2.2.1
theorem dL_law_1299 : decode cL_law 1299 = .ok (.iadd, 1) := dB_905.2.2.2.2.2.2.2.2.2.1
theorem dL_law_1300 : decode cL_law 1300 = .ok (.iaload, 1) := dB_905.2.2.2.2.2.2.2.2.2.2.1
theorem dL_law_1304 : decode cL_law 1304 = .ok (.pop, 1) := dB_905.2.2.2.2.2.2.2.2.2.2.2.1
theorem dL_law_1305 : decode cL_law 1305 = .ok (.goto 151, 3) := dB_905.2.2.2.2.2.2.2.2.2.2.2.2.1
theorem dL_law_1308 : decode cL_law 1308 = .ok (.aload_n 1, 1) := dB_905.2.2.2.2.2.2.2.2.2.2.2.2.2.1
theorem dL_law_1309 : decode cL_law 1309 = .ok (.aload_n 0, 1) := dB_905.2.2.2.2.2.2.2.2.2.2.2.2.2.2.1
theorem dL_law_1310 : decode cL_law 1310 = .ok (.iload_n 3, 1) := dB_905.2.2.2.2.2.2.2.2.2.2.2.2.2.2.2
theorem dB_906 : (decode cL_law 1311 = .ok (.iconst 1, 1)) ∧ (decode cL_law 1312 = .ok (.iadd, 1)) ∧ (decode cL_law 1313 = .ok (.iaload, 1)) ∧ (decode cL_law 1314 = .ok (.aload_n 0, 1)) ∧ (decode cL_law 1315 = .ok (.iload_n 3, 1)) ∧ (decode cL_law 1316 = .ok (.iconst 2, 1)) ∧ (decode cL_law 1317 = .ok (.iadd, 1)) ∧ (decode cL_law 1318 = .ok (.iaload, 1)) ∧ (decode cL_law 1322 = .ok (.pop, 1)) ∧ (decode cL_law 1323 = .ok (.aload_n 2, 1)) ∧ (decode cL_law 1324 = .ok (.aload_n 0, 1)) ∧ (decode cL_law 1325 = .ok (.iload_n 3, 1)) ∧ (decode cL_law 1326 = .ok (.iconst 1, 1)) ∧ (decode cL_law 1327 = .ok (.iadd, 1)) ∧ (decode cL_law 1328 = .ok (.iaload, 1)) ∧ (decode cL_law 1329 = .ok (.aload_n 0, 1)) := by decide +kernel
theorem dL_law_1311 : decode cL_law 1311 = .ok (.iconst 1, 1) := dB_906.1
theorem dL_law_1312 : decode cL_law 1312 = .ok (.iadd, 1) := dB_906.2.1
theorem dL_law_1313 : decode cL_law 1313 = .ok (.iaload, 1) := dB_906.2.2.1
theorem dL_law_1314 : decode cL_law 1314 = .ok (.aload_n 0, 1) := dB_906.2.2.2.1
theorem dL_law_1315 : decode cL_law 1315 = .ok (.iload_n 3, 1) := dB_906.2.2.2.2.1
theorem dL_law_1316 : decode cL_law 1316 = .ok (.iconst 2, 1) := dB_906.2.2.2.2.2.1
theorem dL_law_1317 : decode cL_law 1317 = .ok (.iadd, 1) := dB_906.2.2.2.2.2.2.1
theorem dL_law_1318 : decode cL_law 1318 = .ok (.iaload, 1) := dB_906.2.2.2.2.2.2.2.1
theorem dL_law_1322 : decode cL_law 1322 = .ok (.pop, 1) := dB_906.2.2.2.2.2.2.2.2.1
theorem dL_law_1323 : decode cL_law 1323 = .ok (.aload_n 2, 1) := dB_906.2.2.2.2.2.2.2.2.2.1
theorem dL_law_1324 : decode cL_law 1324 = .ok (.aload_n 0, 1) := dB_906.2.2.2.2.2.2.2.2.2.2.1
theorem dL_law_1325 : decode cL_law 1325 = .ok (.iload_n 3, 1) := dB_906.2.2.2.2.2.2.2.2.2.2.2.1
theorem dL_law_1326 : decode cL_law 1326 = .ok (.iconst 1, 1) := dB_906.2.2.2.2.2.2.2.2.2.2.2.2.1
theorem dL_law_1327 : decode cL_law 1327 = .ok (.iadd, 1) := dB_906.2.2.2.2.2.2.2.2.2.2.2.2.2.1
theorem dL_law_1328 : decode cL_law 1328 = .ok (.iaload, 1) := dB_906.2.2.2.2.2.2.2.2.2.2.2.2.2.2.1
theorem dL_law_1329 : decode cL_law 1329 = .ok (.aload_n 0, 1) := dB_906.2.2.2.2.2.2.2.2.2.2.2.2.2.2.2
theorem dB_907 : (decode cL_law 1330 = .ok (.iload_n 3, 1)) ∧ (decode cL_law 1331 = .ok (.iconst 2, 1)) ∧ (decode cL_law 1332 = .ok (.iadd, 1)) ∧ (decode cL_law 1333 = .ok (.iaload, 1)) ∧ (decode cL_law 1337 = .ok (.pop, 1)) ∧ (decode cL_law 1338 = .ok (.goto 118, 3)) ∧ (decode cL_law 1341 = .ok (.aload_n 1, 1)) ∧ (decode cL_law 1342 = .ok (.aload_n 0, 1)) ∧ (decode cL_law 1343 = .ok (.iload_n 3, 1)) ∧ (decode cL_law 1344 = .ok (.iconst 1, 1)) ∧ (decode cL_law 1345 = .ok (.iadd, 1)) ∧ (decode cL_law 1346 = .ok (.iaload, 1)) ∧ (decode cL_law 1347 = .ok (.aload_n 0, 1)) ∧ (decode cL_law 1348 = .ok (.iload_n 3, 1)) ∧ (decode cL_law 1349 = .ok (.iconst 2, 1)) ∧ (decode cL_law 1350 = .ok (.iadd, 1)) := by decide +kernel
theorem dL_law_1330 : decode cL_law 1330 = .ok (.iload_n 3, 1) := dB_907.1
theorem dL_law_1331 : decode cL_law 1331 = .ok (.iconst 2, 1) := dB_907.2.1
theorem dL_law_1332 : decode cL_law 1332 = .ok (.iadd, 1) := dB_907.2.2.1
theorem dL_law_1333 : decode cL_law 1333 = .ok (.iaload, 1) := dB_907.2.2.2.1
theorem dL_law_1337 : decode cL_law 1337 = .ok (.pop, 1) := dB_907.2.2.2.2.1
theorem dL_law_1338 : decode cL_law 1338 = .ok (.goto 118, 3) := dB_907.2.2.2.2.2.1
theorem dL_law_1341 : decode cL_law 1341 = .ok (.aload_n 1, 1) := dB_907.2.2.2.2.2.2.1
theorem dL_law_1342 : decode cL_law 1342 = .ok (.aload_n 0, 1) := dB_907.2.2.2.2.2.2.2.1
theorem dL_law_1343 : decode cL_law 1343 = .ok (.iload_n 3, 1) := dB_907.2.2.2.2.2.2.2.2.1
theorem dL_law_1344 : decode cL_law 1344 = .ok (.iconst 1, 1) := dB_907.2.2.2.2.2.2.2.2.2.1
theorem dL_law_1345 : decode cL_law 1345 = .ok (.iadd, 1) := dB_907.2.2.2.2.2.2.2.2.2.2.1
theorem dL_law_1346 : decode cL_law 1346 = .ok (.iaload, 1) := dB_907.2.2.2.2.2.2.2.2.2.2.2.1
theorem dL_law_1347 : decode cL_law 1347 = .ok (.aload_n 0, 1) := dB_907.2.2.2.2.2.2.2.2.2.2.2.2.1
theorem dL_law_1348 : decode cL_law 1348 = .ok (.iload_n 3, 1) := dB_907.2.2.2.2.2.2.2.2.2.2.2.2.2.1
theorem dL_law_1349 : decode cL_law 1349 = .ok (.iconst 2, 1) := dB_907.2.2.2.2.2.2.2.2.2.2.2.2.2.2.1
theorem dL_law_1350 : decode cL_law 1350 = .ok (.iadd, 1) := dB_907.2.2.2.2.2.2.2.2.2.2.2.2.2.2.2
theorem dB_908 : (decode cL_law 1351 = .ok (.iaload, 1)) ∧ (decode cL_law 1355 = .ok (.pop, 1)) ∧ (decode cL_law 1356 = .ok (.aload_n 2, 1)) ∧ (decode cL_law 1357 = .ok (.aload_n 0, 1)) ∧ (decode cL_law 1358 = .ok (.iload_n 3, 1)) ∧ (decode cL_law 1359 = .ok (.iconst 1, 1)) ∧ (decode cL_law 1360 = .ok (.iadd, 1)) ∧ (decode cL_law 1361 = .ok (.iaload, 1)) ∧ (decode cL_law 1362 = .ok (.aload_n 0, 1)) ∧ (decode cL_law 1363 = .ok (.iload_n 3, 1)) ∧ (decode cL_law 1364 = .ok (.iconst 2, 1)) ∧ (decode cL_law 1365 = .ok (.iadd, 1)) ∧ (decode cL_law 1366 = .ok (.iaload, 1)) ∧ (decode cL_law 1370 = .ok (.pop, 1)) ∧ (decode cL_law 1371 = .ok (.goto 85, 3)) ∧ (decode cL_law 1374 = .ok (.aload_n 1, 1)) := by decide +kernel
theorem dL_law_1351 : decode cL_law 1351 = .ok (.iaload, 1) := dB_908.1
theorem dL_law_1355 : decode cL_law 1355 = .ok (.pop, 1) := dB_908.2.1
theorem dL_law_1356 : decode cL_law 1356 = .ok (.aload_n 2, 1) := dB_908.2.2.1
theorem dL_law_1357 : decode cL_law 1357 = .ok (.aload_n 0, 1) := dB_908.2.2.2.1
theorem dL_law_1358 : decode cL_law 1358 = .ok (.iload_n 3, 1) := dB_908.2.2.2.2.1
theorem dL_law_1359 : decode cL_law 1359 = .ok (.iconst 1, 1) := dB_908.2.2.2.2.2.1
theorem dL_law_1360 : decode cL_law 1360 = .ok (.iadd, 1) := dB_908.2.2.2.2.2.2.1
theorem dL_law_1361 : decode cL_law 1361 = .ok (.iaload, 1) := dB_908.2.2.2.2.2.2.2.1
theorem dL_law_1362 : decode cL_law 1362 = .ok (.aload_n 0, 1) := dB_908.2.2.2.2.2.2.2.2.1
theorem dL_law_1363 : decode cL_law 1363 = .ok (.iload_n 3, 1) := dB_908.2.2.2.2.2.2.2.2.2.1
theorem dL_law_1364 : decode cL_law 1364 = .ok (.iconst 2, 1) := dB_908.2.2.2.2.2.2.2.2.2.2.1
theorem dL_law_1365 : decode cL_law 1365 = .ok (.iadd, 1) := dB_908.2.2.2.2.2.2.2.2.2.2.2.1
theorem dL_law_1366 : decode cL_law 1366 = .ok (.iaload, 1) := dB_908.2.2.2.2.2.2.2.2.2.2.2.2.1
theorem dL_law_1370 : decode cL_law 1370 = .ok (.pop, 1) := dB_908.2.2.2.2.2.2.2.2.2.2.2.2.2.1
theorem dL_law_1371 : decode cL_law 1371 = .ok (.goto 85, 3) := dB_908.2.2.2.2.2.2.2.2.2.2.2.2.2.2.1
theorem dL_law_1374 : decode cL_law 1374 = .ok (.aload_n 1, 1) := dB_908.2.2.2.2.2.2.2.2.2.2.2.2.2.2.2
theorem dB_909 : (decode cL_law 1375 = .ok (.aload_n 0, 1)) ∧ (decode cL_law 1376 = .ok (.iload_n 3, 1)) ∧ (decode cL_law 1377 = .ok (.iconst 1, 1)) ∧ (decode cL_law 1378 = .ok (.iadd, 1)) ∧ (decode cL_law 1379 = .ok (.iaload, 1)) ∧ (decode cL_law 1383 = .ok (.pop, 1)) ∧ (decode cL_law 1384 = .ok (.aload_n 2, 1)) ∧ (decode cL_law 1385 = .ok (.aload_n 0, 1)) ∧ (decode cL_law 1386 = .ok (.iload_n 3, 1)) ∧ (decode cL_law 1387 = .ok (.iconst 1, 1)) ∧ (decode cL_law 1388 = .ok (.iadd, 1)) ∧ (decode cL_law 1389 = .ok (.iaload, 1)) ∧ (decode cL_law 1393 = .ok (.pop, 1)) ∧ (decode cL_law 1394 = .ok (.goto 62, 3)) ∧ (decode cL_law 1397 = .ok (.aload_n 1, 1)) ∧ (decode cL_law 1398 = .ok (.aload_n 0, 1)) := by decide +kernel
theorem dL_law_1375 : decode cL_law 1375 = .ok (.aload_n 0, 1) := dB_909.1
theorem dL_law_1376 : decode cL_law 1376 = .ok (.iload_n 3, 1) := dB_909.2.1
theorem dL_law_1377 : decode cL_law 1377 = .ok (.iconst 1, 1) := dB_909.2.2.1
theorem dL_law_1378 : decode cL_law 1378 = .ok (.iadd, 1) := dB_909.2.2.2.1
theorem dL_law_1379 : decode cL_law 1379 = .ok (.iaload, 1) := dB_909.2.2.2.2.1
theorem dL_law_1383 : decode cL_law 1383 = .ok (.pop, 1) := dB_909.2.2.2.2.2.1
theorem dL_law_1384 : decode cL_law 1384 = .ok (.aload_n 2, 1) := dB_909.2.2.2.2.2.2.1
theorem dL_law_1385 : decode cL_law 1385 = .ok (.aload_n 0, 1) := dB_909.2.2.2.2.2.2.2.1
theorem dL_law_1386 : decode cL_law 1386 = .ok (.iload_n 3, 1) := dB_909.2.2.2.2.2.2.2.2.1
theorem dL_law_1387 : decode cL_law 1387 = .ok (.iconst 1, 1) := dB_909.2.2.2.2.2.2.2.2.2.1
theorem dL_law_1388 : decode cL_law 1388 = .ok (.iadd, 1) := dB_909.2.2.2.2.2.2.2.2.2.2.1
theorem dL_law_1389 : decode cL_law 1389 = .ok (.iaload, 1) := dB_909.2.2.2.2.2.2.2.2.2.2.2.1
theorem dL_law_1393 : decode cL_law 1393 = .ok (.pop, 1) := dB_909.2.2.2.2.2.2.2.2.2.2.2.2.1
theorem dL_law_1394 : decode cL_law 1394 = .ok (.goto 62, 3) := dB_909.2.2.2.2.2.2.2.2.2.2.2.2.2.1
theorem dL_law_1397 : decode cL_law 1397 = .ok (.aload_n 1, 1) := dB_909.2.2.2.2.2.2.2.2.2.2.2.2.2.2.1
theorem dL_law_1398 : decode cL_law 1398 = .ok (.aload_n 0, 1) := dB_909.2.2.2.2.2.2.2.2.2.2.2.2.2.2.2
theorem dB_910 : (decode cL_law 1399 = .ok (.iload_n 3, 1)) ∧ (decode cL_law 1400 = .ok (.iconst 1, 1)) ∧ (decode cL_law 1401 = .ok (.iadd, 1)) ∧ (decode cL_law 1402 = .ok (.iaload, 1)) ∧ (decode cL_law 1406 = .ok (.pop, 1)) ∧ (decode cL_law 1407 = .ok (.aload_n 2, 1)) ∧ (decode cL_law 1408 = .ok (.aload_n 0, 1)) ∧ (decode cL_law 1409 = .ok (.iload_n 3, 1)) ∧ (decode cL_law 1410 = .ok (.iconst 1, 1)) ∧ (decode cL_law 1411 = .ok (.iadd, 1)) ∧ (decode cL_law 1412 = .ok (.iaload, 1)) ∧ (decode cL_law 1416 = .ok (.pop, 1)) ∧ (decode cL_law 1417 = .ok (.goto 39, 3)) ∧ (decode cL_law 1420 = .ok (.aload_n 1, 1)) ∧ (decode cL_law 1421 = .ok (.aload_n 0, 1)) ∧ (decode cL_law 1422 = .ok (.iload_n 3, 1)) := by decide +kernel
theorem dL_law_1399 : decode cL_law 1399 = .ok (.iload_n 3, 1) := dB_910.1
theorem dL_law_1400 : decode cL_law 1400 = .ok (.iconst 1, 1) := dB_910.2.1
theorem dL_law_1401 : decode cL_law 1401 = .ok (.iadd, 1) := dB_910.2.2.1
theorem dL_law_1402 : decode cL_law 1402 = .ok (.iaload, 1) := dB_910.2.2.2.1
theorem dL_law_1406 : decode cL_law 1406 = .ok (.pop, 1) := dB_910.2.2.2.2.1
theorem dL_law_1407 : decode cL_law 1407 = .ok (.aload_n 2, 1) := dB_910.2.2.2.2.2.1
theorem dL_law_1408 : decode cL_law 1408 = .ok (.aload_n 0, 1) := dB_910.2.2.2.2.2.2.1
theorem dL_law_1409 : decode cL_law 1409 = .ok (.iload_n 3, 1) := dB_910.2.2.2.2.2.2.2.1
theorem dL_law_1410 : decode cL_law 1410 = .ok (.iconst 1, 1) := dB_910.2.2.2.2.2.2.2.2.1
theorem dL_law_1411 : decode cL_law 1411 = .ok (.iadd, 1) := dB_910.2.2.2.2.2.2.2.2.2.1
theorem dL_law_1412 : decode cL_law 1412 = .ok (.iaload, 1) := dB_910.2.2.2.2.2.2.2.2.2.2.1
theorem dL_law_1416 : decode cL_law 1416 = .ok (.pop, 1) := dB_910.2.2.2.2.2.2.2.2.2.2.2.1
theorem dL_law_1417 : decode cL_law 1417 = .ok (.goto 39, 3) := dB_910.2.2.2.2.2.2.2.2.2.2.2.2.1
theorem dL_law_1420 : decode cL_law 1420 = .ok (.aload_n 1, 1) := dB_910.2.2.2.2.2.2.2.2.2.2.2.2.2.1
theorem dL_law_1421 : decode cL_law 1421 = .ok (.aload_n 0, 1) := dB_910.2.2.2.2.2.2.2.2.2.2.2.2.2.2.1
theorem dL_law_1422 : decode cL_law 1422 = .ok (.iload_n 3, 1) := dB_910.2.2.2.2.2.2.2.2.2.2.2.2.2.2.2
theorem dB_911 : (decode cL_law 1423 = .ok (.iconst 1, 1)) ∧ (decode cL_law 1424 = .ok (.iadd, 1)) ∧ (decode cL_law 1425 = .ok (.iaload, 1)) ∧ (decode cL_law 1429 = .ok (.pop, 1)) ∧ (decode cL_law 1430 = .ok (.aload_n 2, 1)) ∧ (decode cL_law 1431 = .ok (.aload_n 0, 1)) ∧ (decode cL_law 1432 = .ok (.iload_n 3, 1)) ∧ (decode cL_law 1433 = .ok (.iconst 1, 1)) ∧ (decode cL_law 1434 = .ok (.iadd, 1)) ∧ (decode cL_law 1435 = .ok (.iaload, 1)) ∧ (decode cL_law 1439 = .ok (.pop, 1)) ∧ (decode cL_law 1440 = .ok (.goto 16, 3)) ∧ (decode cL_law 1443 = .ok (.aload_n 1, 1)) ∧ (decode cL_law 1447 = .ok (.pop, 1)) ∧ (decode cL_law 1448 = .ok (.aload_n 2, 1)) ∧ (decode cL_law 1452 = .ok (.pop, 1)) := by decide +kernel
theorem dL_law_1423 : decode cL_law 1423 = .ok (.iconst 1, 1) := dB_911.1
theorem dL_law_1424 : decode cL_law 1424 = .ok (.iadd, 1) := dB_911.2.1
theorem dL_law_1425 : decode cL_law 1425 = .ok (.iaload, 1) := dB_911.2.2.1
theorem dL_law_1429 : decode cL_law 1429 = .ok (.pop, 1) := dB_911.2.2.2.1
theorem dL_law_1430 : decode cL_law 1430 = .ok (.aload_n 2, 1) := dB_911.2.2.2.2.1
theorem dL_law_1431 : decode cL_law 1431 = .ok (.aload_n 0, 1) := dB_911.2.2.2.2.2.1
theorem dL_law_1432 : decode cL_law 1432 = .ok (.iload_n 3, 1) := dB_911.2.2.2.2.2.2.1
theorem dL_law_1433 : decode cL_law 1433 = .ok (.iconst 1, 1) := dB_911.2.2.2.2.2.2.2.1
theorem dL_law_1434 : decode cL_law 1434 = .ok (.iadd, 1) := dB_911.2.2.2.2.2.2.2.2.1
theorem dL_law_1435 : decode cL_law 1435 = .ok (.iaload, 1) := dB_911.2.2.2.2.2.2.2.2.2.1
theorem dL_law_1439 : decode cL_law 1439 = .ok (.pop, 1) := dB_911.2.2.2.2.2.2.2.2.2.2.1
theorem dL_law_1440 : decode cL_law 1440 = .ok (.goto 16, 3) := dB_911.2.2.2.2.2.2.2.2.2.2.2.1
theorem dL_law_1443 : decode cL_law 1443 = .ok (.aload_n 1, 1) := dB_911.2.2.2.2.2.2.2.2.2.2.2.2.1
theorem dL_law_1447 : decode cL_law 1447 = .ok (.pop, 1) := dB_911.2.2.2.2.2.2.2.2.2.2.2.2.2.1
theorem dL_law_1448 : decode cL_law 1448 = .ok (.aload_n 2, 1) := dB_911.2.2.2.2.2.2.2.2.2.2.2.2.2.2.1
theorem dL_law_1452 : decode cL_law 1452 = .ok (.pop, 1) := dB_911.2.2.2.2.2.2.2.2.2.2.2.2.2.2.2
theorem dL_law_1453 : decode cL_law 1453 = .ok (.goto 3, 3) := by decide +kernel
end
section
theorem ix_in {i x : Int32} {k : Int32} {L : Nat} (h0 : 0 ≤ i.toInt) (h1 : i.toInt + 6 ≤ (L : Int)) (hL : L ≤ 3072) (ex : x = i + k) (hk0 : 0 ≤ k.toInt) (hk5 : k.toInt ≤ 5) : vp_in x L := by
  subst ex
  exact vpi (x := i.toInt + k.toInt) (add_z rfl rfl (by omega) (by omega)) (by omega) (by omega)
set_option maxHeartbeats 1000000 in
set_option maxRecDepth 100000 in
theorem lw_c_put {p : Program} {e : Env} {s : State} {m : MethodId} {below : List Frame} {meth : Method} {c : Code} (l : Launch) {sb L : Nat} {xs : Nat → Int32} {A : Nat → Prop} (C0 : lw_At p s m meth c sb L xs) (hL : L ≤ 3072) (hA : ∀ q, s.heap.size ≤ q → A q) (hbA : ¬ A sb) {G : va_G} {cs : Nat → ClassId} {xe : XE} (hN : NW s) (hK : va_K G vwCl (tyL cs) s) (hxe : isRf xe.2.2) (hZ : XZ xe A s) {Q : State → Prop} {h0 m0 : Nat} {cells slots : Nat} (hf : cells ≤ 580000 ∧ slots ≤ 7290000) {i : Int32} (hi0 : 0 ≤ i.toInt) (hi1 : i.toInt + 6 ≤ (L : Int)) (K : ∀ (kx : Nat → Int32) (lx : Int32) (tx : Nat → Int32) (zw : Nat → Int) (zU : UL) (zl : Nat → List Cls) (zWI : Nat → Nat → Int) (zLI : Nat → Nat → List Cls) (zft : Int) (zsp : Int) (zmd : Int) (zla : Int) (zrf : Nat → Int32) (zD : ODr) (wx wm : va_W) (H : Heap) (locs : List Loc) (ls : Array Slot), CX cs h0 kx lx tx zw zU zl zWI zLI zft zsp zmd zla zrf zD wx → CM cs m0 kx lx tx zw zU zl zWI zLI zft zsp zmd zla zrf zD wm → va_P G vwCl (wx ++ wm) H → va_D A (wx ++ wm) → va_S A s.heap H locs → lv_has ls 4 [(0, Value.ref sb), (1, Value.ref h0), (2, Value.ref m0), (3, Value.int i)] → W p l e room_1 s m #[Value.ref sb] below meth c H locs (cells + 3) (slots + 464) Q (F0 m 1456 ls [])) {kx : Nat → Int32} {lx : Int32} {tx : Nat → Int32} {zw : Nat → Int} {zU : UL} {zl : Nat → List Cls} {zWI : Nat → Nat → Int} {zLI : Nat → Nat → List Cls} {zft : Int} {zsp : Int} {zmd : Int} {zla : Int} {zrf : Nat → Int32} {zD : ODr} {wx wm : va_W} {H : Heap} {locs : List Loc} {ls : Array Slot} (hCX : CX cs h0 kx lx tx zw zU zl zWI zLI zft zsp zmd zla zrf zD wx) (hCM : CM cs m0 kx lx tx zw zU zl zWI zLI zft zsp zmd zla zrf zD wm) (hP : va_P G vwCl (wx ++ wm) H) (hD : va_D A (wx ++ wm)) (hS : va_S A s.heap H locs) (hl : lv_has ls 4 [(0, Value.ref sb), (1, Value.ref h0), (2, Value.ref m0), (3, Value.int i)]) : W p l e room_1 s m #[Value.ref sb] below meth c H locs cells slots Q (F0 m 224 ls []) := by
  obtain ⟨hx, hb, hr, hml, hown, hts, hX, hbl, hlocks, hgv⟩ := id C0
  have hb : c.code = cL_law := hb
  have hown : s.vm.findClass RL = some m.cls := hown
  have htl := gW_l hts
  have hf : cells ≤ 590000 ∧ slots ≤ 7300000 := (by first | with_reducible assumption | exact ⟨by omega, by omega⟩)
  refine lv_aload_n hx hb dL_law_224 rfl (lv_at hl 1 rfl) ?_
  refine lv_aload_n hx hb dL_law_225 rfl (lv_at hl 0 rfl) ?_
  refine lv_iload_n hx hb dL_law_226 rfl (lv_at hl 3 rfl) ?_
  refine lv_iconst (v := 1) hx hb dL_law_227 (by decide) ?_
  refine lv_iadd hx hb dL_law_228 ?_
  refine lv_topi (fun ix0 ex0 => ?_)
  refine va_sld hx hb hX hbl hbA hS (ix_in hi0 hi1 hL ex0 (by decide) (by decide)) dL_law_229 ?_
  refine lv_topi (fun a0 ea0 => ?_)
  refine lv_aload_n hx hb dL_law_230 rfl (lv_at hl 0 rfl) ?_
  refine lv_iload_n hx hb dL_law_231 rfl (lv_at hl 3 rfl) ?_
  refine lv_iconst (v := 2) hx hb dL_law_232 (by decide) ?_
  refine lv_iadd hx hb dL_law_233 ?_
  refine lv_topi (fun ix1 ex1 => ?_)
  refine va_sld hx hb hX hbl hbA hS (ix_in hi0 hi1 hL ex1 (by decide) (by decide)) dL_law_234 ?_
  refine lv_topi (fun a1 ea1 => ?_)
  refine lv_aload_n hx hb dL_law_235 rfl (lv_at hl 0 rfl) ?_
  refine lv_iload_n hx hb dL_law_236 rfl (lv_at hl 3 rfl) ?_
  refine lv_iconst (v := 3) hx hb dL_law_237 (by decide) ?_
  refine lv_iadd hx hb dL_law_238 ?_
  refine lv_topi (fun ix2 ex2 => ?_)
  refine va_sld hx hb hX hbl hbA hS (ix_in hi0 hi1 hL ex2 (by decide) (by decide)) dL_law_239 ?_
  refine lv_topi (fun a2 ea2 => ?_)
  refine cx_put l C0 hA hN hK hxe hZ a0 a1 a2 hCX hP hD hS hl.1 hf (fun r wx H locs hans hCX hP hD hS => ?_)
  refine lv_pop hx hb dL_law_243 rfl ?_
  refine lv_aload_n hx hb dL_law_244 rfl (lv_at hl 2 rfl) ?_
  refine lv_aload_n hx hb dL_law_245 rfl (lv_at hl 0 rfl) ?_
  refine lv_iload_n hx hb dL_law_246 rfl (lv_at hl 3 rfl) ?_
  refine lv_iconst (v := 1) hx hb dL_law_247 (by decide) ?_
  refine lv_iadd hx hb dL_law_248 ?_
  refine lv_topi (fun ix3 ex3 => ?_)
  refine va_sld hx hb hX hbl hbA hS (ix_in hi0 hi1 hL ex3 (by decide) (by decide)) dL_law_249 ?_
  refine lv_topi (fun a3 ea3 => ?_)
  refine lv_aload_n hx hb dL_law_250 rfl (lv_at hl 0 rfl) ?_
  refine lv_iload_n hx hb dL_law_251 rfl (lv_at hl 3 rfl) ?_
  refine lv_iconst (v := 2) hx hb dL_law_252 (by decide) ?_
  refine lv_iadd hx hb dL_law_253 ?_
  refine lv_topi (fun ix4 ex4 => ?_)
  refine va_sld hx hb hX hbl hbA hS (ix_in hi0 hi1 hL ex4 (by decide) (by decide)) dL_law_254 ?_
  refine lv_topi (fun a4 ea4 => ?_)
  refine lv_aload_n hx hb dL_law_255 rfl (lv_at hl 0 rfl) ?_
  refine lv_iload_n hx hb dL_law_256 rfl (lv_at hl 3 rfl) ?_
  refine lv_iconst (v := 3) hx hb dL_law_257 (by decide) ?_
  refine lv_iadd hx hb dL_law_258 ?_
  refine lv_topi (fun ix5 ex5 => ?_)
  refine va_sld hx hb hX hbl hbA hS (ix_in hi0 hi1 hL ex5 (by decide) (by decide)) dL_law_259 ?_
  refine lv_topi (fun a5 ea5 => ?_)
  have e_a3 : a3 = a0 := ea3.trans (by rw [ex3, ← ex0]; exact ea0.symm)
  rw [e_a3]
  have e_a4 : a4 = a1 := ea4.trans (by rw [ex4, ← ex1]; exact ea1.symm)
  rw [e_a4]
  have e_a5 : a5 = a2 := ea5.trans (by rw [ex5, ← ex2]; exact ea2.symm)
  rw [e_a5]
  refine cm_put l C0 hA hN hK (Nat.le_of_ble_eq_true rfl) a0 a1 a2 hCM (P_perm List.perm_append_comm hP) (D_perm List.perm_append_comm hD) hS hl.1 hf (fun r2 wm H locs hans2 hCM hP hD hS => ?_)
  replace hP := P_perm List.perm_append_comm hP
  replace hD := D_perm List.perm_append_comm hD
  refine lv_pop hx hb dL_law_263 rfl ?_
  refine lv_goto (tgt := 1456) hx hb dL_law_264 (by decide) ?_
  refine W.widen (k := cells + 3) (n := slots + 464) (by omega) (by omega) ?_
  exact K _ _ _ _ _ _ _ _ _ _ _ _ _ _ wx wm _ _ ls hCX hCM hP hD hS hl

set_option maxHeartbeats 1000000 in
set_option maxRecDepth 100000 in
theorem lw_c_at {p : Program} {e : Env} {s : State} {m : MethodId} {below : List Frame} {meth : Method} {c : Code} (l : Launch) {sb L : Nat} {xs : Nat → Int32} {A : Nat → Prop} (C0 : lw_At p s m meth c sb L xs) (hL : L ≤ 3072) (hA : ∀ q, s.heap.size ≤ q → A q) (hbA : ¬ A sb) {G : va_G} {cs : Nat → ClassId} {xe : XE} (hN : NW s) (hK : va_K G vwCl (tyL cs) s) (hxe : isRf xe.2.2) (hZ : XZ xe A s) {Q : State → Prop} {h0 m0 : Nat} {cells slots : Nat} (hf : cells ≤ 580000 ∧ slots ≤ 7290000) {i : Int32} (hi0 : 0 ≤ i.toInt) (hi1 : i.toInt + 6 ≤ (L : Int)) (K : ∀ (kx : Nat → Int32) (lx : Int32) (tx : Nat → Int32) (zw : Nat → Int) (zU : UL) (zl : Nat → List Cls) (zWI : Nat → Nat → Int) (zLI : Nat → Nat → List Cls) (zft : Int) (zsp : Int) (zmd : Int) (zla : Int) (zrf : Nat → Int32) (zD : ODr) (wx wm : va_W) (H : Heap) (locs : List Loc) (ls : Array Slot), CX cs h0 kx lx tx zw zU zl zWI zLI zft zsp zmd zla zrf zD wx → CM cs m0 kx lx tx zw zU zl zWI zLI zft zsp zmd zla zrf zD wm → va_P G vwCl (wx ++ wm) H → va_D A (wx ++ wm) → va_S A s.heap H locs → lv_has ls 4 [(0, Value.ref sb), (1, Value.ref h0), (2, Value.ref m0), (3, Value.int i)] → W p l e room_1 s m #[Value.ref sb] below meth c H locs (cells + 3) (slots + 464) Q (F0 m 1456 ls [])) {kx : Nat → Int32} {lx : Int32} {tx : Nat → Int32} {zw : Nat → Int} {zU : UL} {zl : Nat → List Cls} {zWI : Nat → Nat → Int} {zLI : Nat → Nat → List Cls} {zft : Int} {zsp : Int} {zmd : Int} {zla : Int} {zrf : Nat → Int32} {zD : ODr} {wx wm : va_W} {H : Heap} {locs : List Loc} {ls : Array Slot} (hCX : CX cs h0 kx lx tx zw zU zl zWI zLI zft zsp zmd zla zrf zD wx) (hCM : CM cs m0 kx lx tx zw zU zl zWI zLI zft zsp zmd zla zrf zD wm) (hP : va_P G vwCl (wx ++ wm) H) (hD : va_D A (wx ++ wm)) (hS : va_S A s.heap H locs) (hl : lv_has ls 4 [(0, Value.ref sb), (1, Value.ref h0), (2, Value.ref m0), (3, Value.int i)]) : W p l e room_1 s m #[Value.ref sb] below meth c H locs cells slots Q (F0 m 267 ls []) := by
  obtain ⟨hx, hb, hr, hml, hown, hts, hX, hbl, hlocks, hgv⟩ := id C0
  have hb : c.code = cL_law := hb
  have hown : s.vm.findClass RL = some m.cls := hown
  have htl := gW_l hts
  have hf : cells ≤ 590000 ∧ slots ≤ 7300000 := (by first | with_reducible assumption | exact ⟨by omega, by omega⟩)
  refine lv_aload_n hx hb dL_law_267 rfl (lv_at hl 1 rfl) ?_
  refine lv_aload_n hx hb dL_law_268 rfl (lv_at hl 0 rfl) ?_
  refine lv_iload_n hx hb dL_law_269 rfl (lv_at hl 3 rfl) ?_
  refine lv_iconst (v := 1) hx hb dL_law_270 (by decide) ?_
  refine lv_iadd hx hb dL_law_271 ?_
  refine lv_topi (fun ix0 ex0 => ?_)
  refine va_sld hx hb hX hbl hbA hS (ix_in hi0 hi1 hL ex0 (by decide) (by decide)) dL_law_272 ?_
  refine lv_topi (fun a0 ea0 => ?_)
  refine lv_aload_n hx hb dL_law_273 rfl (lv_at hl 0 rfl) ?_
  refine lv_iload_n hx hb dL_law_274 rfl (lv_at hl 3 rfl) ?_
  refine lv_iconst (v := 2) hx hb dL_law_275 (by decide) ?_
  refine lv_iadd hx hb dL_law_276 ?_
  refine lv_topi (fun ix1 ex1 => ?_)
  refine va_sld hx hb hX hbl hbA hS (ix_in hi0 hi1 hL ex1 (by decide) (by decide)) dL_law_277 ?_
  refine lv_topi (fun a1 ea1 => ?_)
  refine cx_at l C0 hA hN hK hxe hZ a0 a1 hCX hP hD hS hl.1 hf (fun r wx H locs hans hCX hP hD hS => ?_)
  refine lv_pop hx hb dL_law_281 rfl ?_
  refine lv_aload_n hx hb dL_law_282 rfl (lv_at hl 2 rfl) ?_
  refine lv_aload_n hx hb dL_law_283 rfl (lv_at hl 0 rfl) ?_
  refine lv_iload_n hx hb dL_law_284 rfl (lv_at hl 3 rfl) ?_
  refine lv_iconst (v := 1) hx hb dL_law_285 (by decide) ?_
  refine lv_iadd hx hb dL_law_286 ?_
  refine lv_topi (fun ix2 ex2 => ?_)
  refine va_sld hx hb hX hbl hbA hS (ix_in hi0 hi1 hL ex2 (by decide) (by decide)) dL_law_287 ?_
  refine lv_topi (fun a2 ea2 => ?_)
  refine lv_aload_n hx hb dL_law_288 rfl (lv_at hl 0 rfl) ?_
  refine lv_iload_n hx hb dL_law_289 rfl (lv_at hl 3 rfl) ?_
  refine lv_iconst (v := 2) hx hb dL_law_290 (by decide) ?_
  refine lv_iadd hx hb dL_law_291 ?_
  refine lv_topi (fun ix3 ex3 => ?_)
  refine va_sld hx hb hX hbl hbA hS (ix_in hi0 hi1 hL ex3 (by decide) (by decide)) dL_law_292 ?_
  refine lv_topi (fun a3 ea3 => ?_)
  have e_a2 : a2 = a0 := ea2.trans (by rw [ex2, ← ex0]; exact ea0.symm)
  rw [e_a2]
  have e_a3 : a3 = a1 := ea3.trans (by rw [ex3, ← ex1]; exact ea1.symm)
  rw [e_a3]
  refine cm_at l C0 hA hN hK (Nat.le_of_ble_eq_true rfl) a0 a1 hCM (P_perm List.perm_append_comm hP) (D_perm List.perm_append_comm hD) hS hl.1 hf (fun r2 wm H locs hans2 hCM hP hD hS => ?_)
  replace hP := P_perm List.perm_append_comm hP
  replace hD := D_perm List.perm_append_comm hD
  refine lv_pop hx hb dL_law_296 rfl ?_
  refine lv_goto (tgt := 1456) hx hb dL_law_297 (by decide) ?_
  refine W.widen (k := cells + 3) (n := slots + 464) (by omega) (by omega) ?_
  exact K _ _ _ _ _ _ _ _ _ _ _ _ _ _ wx wm _ _ ls hCX hCM hP hD hS hl

set_option maxHeartbeats 1000000 in
set_option maxRecDepth 100000 in
theorem lw_c_sink {p : Program} {e : Env} {s : State} {m : MethodId} {below : List Frame} {meth : Method} {c : Code} (l : Launch) {sb L : Nat} {xs : Nat → Int32} {A : Nat → Prop} (C0 : lw_At p s m meth c sb L xs) (hL : L ≤ 3072) (hA : ∀ q, s.heap.size ≤ q → A q) (hbA : ¬ A sb) {G : va_G} {cs : Nat → ClassId} {xe : XE} (hN : NW s) (hK : va_K G vwCl (tyL cs) s) (hxe : isRf xe.2.2) (hZ : XZ xe A s) {Q : State → Prop} {h0 m0 : Nat} {cells slots : Nat} (hf : cells ≤ 580000 ∧ slots ≤ 7290000) {i : Int32} (hi0 : 0 ≤ i.toInt) (hi1 : i.toInt + 6 ≤ (L : Int)) (K : ∀ (kx : Nat → Int32) (lx : Int32) (tx : Nat → Int32) (zw : Nat → Int) (zU : UL) (zl : Nat → List Cls) (zWI : Nat → Nat → Int) (zLI : Nat → Nat → List Cls) (zft : Int) (zsp : Int) (zmd : Int) (zla : Int) (zrf : Nat → Int32) (zD : ODr) (wx wm : va_W) (H : Heap) (locs : List Loc) (ls : Array Slot), CX cs h0 kx lx tx zw zU zl zWI zLI zft zsp zmd zla zrf zD wx → CM cs m0 kx lx tx zw zU zl zWI zLI zft zsp zmd zla zrf zD wm → va_P G vwCl (wx ++ wm) H → va_D A (wx ++ wm) → va_S A s.heap H locs → lv_has ls 4 [(0, Value.ref sb), (1, Value.ref h0), (2, Value.ref m0), (3, Value.int i)] → W p l e room_1 s m #[Value.ref sb] below meth c H locs (cells + 3) (slots + 464) Q (F0 m 1456 ls [])) {kx : Nat → Int32} {lx : Int32} {tx : Nat → Int32} {zw : Nat → Int} {zU : UL} {zl : Nat → List Cls} {zWI : Nat → Nat → Int} {zLI : Nat → Nat → List Cls} {zft : Int} {zsp : Int} {zmd : Int} {zla : Int} {zrf : Nat → Int32} {zD : ODr} {wx wm : va_W} {H : Heap} {locs : List Loc} {ls : Array Slot} (hCX : CX cs h0 kx lx tx zw zU zl zWI zLI zft zsp zmd zla zrf zD wx) (hCM : CM cs m0 kx lx tx zw zU zl zWI zLI zft zsp zmd zla zrf zD wm) (hP : va_P G vwCl (wx ++ wm) H) (hD : va_D A (wx ++ wm)) (hS : va_S A s.heap H locs) (hl : lv_has ls 4 [(0, Value.ref sb), (1, Value.ref h0), (2, Value.ref m0), (3, Value.int i)]) : W p l e room_1 s m #[Value.ref sb] below meth c H locs cells slots Q (F0 m 300 ls []) := by
  obtain ⟨hx, hb, hr, hml, hown, hts, hX, hbl, hlocks, hgv⟩ := id C0
  have hb : c.code = cL_law := hb
  have hown : s.vm.findClass RL = some m.cls := hown
  have htl := gW_l hts
  have hf : cells ≤ 590000 ∧ slots ≤ 7300000 := (by first | with_reducible assumption | exact ⟨by omega, by omega⟩)
  refine lv_aload_n hx hb dL_law_300 rfl (lv_at hl 1 rfl) ?_
  refine lv_aload_n hx hb dL_law_301 rfl (lv_at hl 0 rfl) ?_
  refine lv_iload_n hx hb dL_law_302 rfl (lv_at hl 3 rfl) ?_
  refine lv_iconst (v := 1) hx hb dL_law_303 (by decide) ?_
  refine lv_iadd hx hb dL_law_304 ?_
  refine lv_topi (fun ix0 ex0 => ?_)
  refine va_sld hx hb hX hbl hbA hS (ix_in hi0 hi1 hL ex0 (by decide) (by decide)) dL_law_305 ?_
  refine lv_topi (fun a0 ea0 => ?_)
  refine cx_sink l C0 hA hN hK hxe hZ a0 hCX hP hD hS hl.1 hf (fun r wx H locs hans hCX hP hD hS => ?_)
  refine lv_pop hx hb dL_law_309 rfl ?_
  refine lv_aload_n hx hb dL_law_310 rfl (lv_at hl 2 rfl) ?_
  refine lv_aload_n hx hb dL_law_311 rfl (lv_at hl 0 rfl) ?_
  refine lv_iload_n hx hb dL_law_312 rfl (lv_at hl 3 rfl) ?_
  refine lv_iconst (v := 1) hx hb dL_law_313 (by decide) ?_
  refine lv_iadd hx hb dL_law_314 ?_
  refine lv_topi (fun ix1 ex1 => ?_)
  refine va_sld hx hb hX hbl hbA hS (ix_in hi0 hi1 hL ex1 (by decide) (by decide)) dL_law_315 ?_
  refine lv_topi (fun a1 ea1 => ?_)
  have e_a1 : a1 = a0 := ea1.trans (by rw [ex1, ← ex0]; exact ea0.symm)
  rw [e_a1]
  refine cm_sink l C0 hA hN hK (Nat.le_of_ble_eq_true rfl) a0 hCM (P_perm List.perm_append_comm hP) (D_perm List.perm_append_comm hD) hS hl.1 hf (fun r2 wm H locs hans2 hCM hP hD hS => ?_)
  replace hP := P_perm List.perm_append_comm hP
  replace hD := D_perm List.perm_append_comm hD
  refine lv_pop hx hb dL_law_319 rfl ?_
  refine lv_goto (tgt := 1456) hx hb dL_law_320 (by decide) ?_
  refine W.widen (k := cells + 3) (n := slots + 464) (by omega) (by omega) ?_
  exact K _ _ _ _ _ _ _ _ _ _ _ _ _ _ wx wm _ _ ls hCX hCM hP hD hS hl

set_option maxHeartbeats 1000000 in
set_option maxRecDepth 100000 in
theorem lw_c_of {p : Program} {e : Env} {s : State} {m : MethodId} {below : List Frame} {meth : Method} {c : Code} (l : Launch) {sb L : Nat} {xs : Nat → Int32} {A : Nat → Prop} (C0 : lw_At p s m meth c sb L xs) (hL : L ≤ 3072) (hA : ∀ q, s.heap.size ≤ q → A q) (hbA : ¬ A sb) {G : va_G} {cs : Nat → ClassId} {xe : XE} (hN : NW s) (hK : va_K G vwCl (tyL cs) s) (hxe : isRf xe.2.2) (hZ : XZ xe A s) {Q : State → Prop} {h0 m0 : Nat} {cells slots : Nat} (hf : cells ≤ 580000 ∧ slots ≤ 7290000) {i : Int32} (hi0 : 0 ≤ i.toInt) (hi1 : i.toInt + 6 ≤ (L : Int)) (K : ∀ (kx : Nat → Int32) (lx : Int32) (tx : Nat → Int32) (zw : Nat → Int) (zU : UL) (zl : Nat → List Cls) (zWI : Nat → Nat → Int) (zLI : Nat → Nat → List Cls) (zft : Int) (zsp : Int) (zmd : Int) (zla : Int) (zrf : Nat → Int32) (zD : ODr) (wx wm : va_W) (H : Heap) (locs : List Loc) (ls : Array Slot), CX cs h0 kx lx tx zw zU zl zWI zLI zft zsp zmd zla zrf zD wx → CM cs m0 kx lx tx zw zU zl zWI zLI zft zsp zmd zla zrf zD wm → va_P G vwCl (wx ++ wm) H → va_D A (wx ++ wm) → va_S A s.heap H locs → lv_has ls 4 [(0, Value.ref sb), (1, Value.ref h0), (2, Value.ref m0), (3, Value.int i)] → W p l e room_1 s m #[Value.ref sb] below meth c H locs (cells + 3) (slots + 464) Q (F0 m 1456 ls [])) {kx : Nat → Int32} {lx : Int32} {tx : Nat → Int32} {zw : Nat → Int} {zU : UL} {zl : Nat → List Cls} {zWI : Nat → Nat → Int} {zLI : Nat → Nat → List Cls} {zft : Int} {zsp : Int} {zmd : Int} {zla : Int} {zrf : Nat → Int32} {zD : ODr} {wx wm : va_W} {H : Heap} {locs : List Loc} {ls : Array Slot} (hCX : CX cs h0 kx lx tx zw zU zl zWI zLI zft zsp zmd zla zrf zD wx) (hCM : CM cs m0 kx lx tx zw zU zl zWI zLI zft zsp zmd zla zrf zD wm) (hP : va_P G vwCl (wx ++ wm) H) (hD : va_D A (wx ++ wm)) (hS : va_S A s.heap H locs) (hl : lv_has ls 4 [(0, Value.ref sb), (1, Value.ref h0), (2, Value.ref m0), (3, Value.int i)]) : W p l e room_1 s m #[Value.ref sb] below meth c H locs cells slots Q (F0 m 323 ls []) := by
  obtain ⟨hx, hb, hr, hml, hown, hts, hX, hbl, hlocks, hgv⟩ := id C0
  have hb : c.code = cL_law := hb
  have hown : s.vm.findClass RL = some m.cls := hown
  have htl := gW_l hts
  have hf : cells ≤ 590000 ∧ slots ≤ 7300000 := (by first | with_reducible assumption | exact ⟨by omega, by omega⟩)
  refine lv_aload_n hx hb dL_law_323 rfl (lv_at hl 1 rfl) ?_
  refine lv_aload_n hx hb dL_law_324 rfl (lv_at hl 0 rfl) ?_
  refine lv_iload_n hx hb dL_law_325 rfl (lv_at hl 3 rfl) ?_
  refine lv_iconst (v := 1) hx hb dL_law_326 (by decide) ?_
  refine lv_iadd hx hb dL_law_327 ?_
  refine lv_topi (fun ix0 ex0 => ?_)
  refine va_sld hx hb hX hbl hbA hS (ix_in hi0 hi1 hL ex0 (by decide) (by decide)) dL_law_328 ?_
  refine lv_topi (fun a0 ea0 => ?_)
  refine lv_aload_n hx hb dL_law_329 rfl (lv_at hl 0 rfl) ?_
  refine lv_iload_n hx hb dL_law_330 rfl (lv_at hl 3 rfl) ?_
  refine lv_iconst (v := 2) hx hb dL_law_331 (by decide) ?_
  refine lv_iadd hx hb dL_law_332 ?_
  refine lv_topi (fun ix1 ex1 => ?_)
  refine va_sld hx hb hX hbl hbA hS (ix_in hi0 hi1 hL ex1 (by decide) (by decide)) dL_law_333 ?_
  refine lv_topi (fun a1 ea1 => ?_)
  refine cx_of l C0 hA hN hK hxe hZ a0 a1 hCX hP hD hS hl.1 hf (fun r wx H locs hans hCX hP hD hS => ?_)
  refine lv_pop hx hb dL_law_337 rfl ?_
  refine lv_aload_n hx hb dL_law_338 rfl (lv_at hl 2 rfl) ?_
  refine lv_aload_n hx hb dL_law_339 rfl (lv_at hl 0 rfl) ?_
  refine lv_iload_n hx hb dL_law_340 rfl (lv_at hl 3 rfl) ?_
  refine lv_iconst (v := 1) hx hb dL_law_341 (by decide) ?_
  refine lv_iadd hx hb dL_law_342 ?_
  refine lv_topi (fun ix2 ex2 => ?_)
  refine va_sld hx hb hX hbl hbA hS (ix_in hi0 hi1 hL ex2 (by decide) (by decide)) dL_law_343 ?_
  refine lv_topi (fun a2 ea2 => ?_)
  refine lv_aload_n hx hb dL_law_344 rfl (lv_at hl 0 rfl) ?_
  refine lv_iload_n hx hb dL_law_345 rfl (lv_at hl 3 rfl) ?_
  refine lv_iconst (v := 2) hx hb dL_law_346 (by decide) ?_
  refine lv_iadd hx hb dL_law_347 ?_
  refine lv_topi (fun ix3 ex3 => ?_)
  refine va_sld hx hb hX hbl hbA hS (ix_in hi0 hi1 hL ex3 (by decide) (by decide)) dL_law_348 ?_
  refine lv_topi (fun a3 ea3 => ?_)
  have e_a2 : a2 = a0 := ea2.trans (by rw [ex2, ← ex0]; exact ea0.symm)
  rw [e_a2]
  have e_a3 : a3 = a1 := ea3.trans (by rw [ex3, ← ex1]; exact ea1.symm)
  rw [e_a3]
  refine cm_of l C0 hA hN hK (Nat.le_of_ble_eq_true rfl) a0 a1 hCM (P_perm List.perm_append_comm hP) (D_perm List.perm_append_comm hD) hS hl.1 hf (fun r2 wm H locs hans2 hCM hP hD hS => ?_)
  replace hP := P_perm List.perm_append_comm hP
  replace hD := D_perm List.perm_append_comm hD
  refine lv_pop hx hb dL_law_352 rfl ?_
  refine lv_goto (tgt := 1456) hx hb dL_law_353 (by decide) ?_
  refine W.widen (k := cells + 3) (n := slots + 464) (by omega) (by omega) ?_
  exact K _ _ _ _ _ _ _ _ _ _ _ _ _ _ wx wm _ _ ls hCX hCM hP hD hS hl

set_option maxHeartbeats 1000000 in
set_option maxRecDepth 100000 in
theorem lw_c_listener {p : Program} {e : Env} {s : State} {m : MethodId} {below : List Frame} {meth : Method} {c : Code} (l : Launch) {sb L : Nat} {xs : Nat → Int32} {A : Nat → Prop} (C0 : lw_At p s m meth c sb L xs) (hL : L ≤ 3072) (hA : ∀ q, s.heap.size ≤ q → A q) (hbA : ¬ A sb) {G : va_G} {cs : Nat → ClassId} {xe : XE} (hN : NW s) (hK : va_K G vwCl (tyL cs) s) (hxe : isRf xe.2.2) (hZ : XZ xe A s) {Q : State → Prop} {h0 m0 : Nat} {cells slots : Nat} (hf : cells ≤ 580000 ∧ slots ≤ 7290000) {i : Int32} (hi0 : 0 ≤ i.toInt) (hi1 : i.toInt + 6 ≤ (L : Int)) (K : ∀ (kx : Nat → Int32) (lx : Int32) (tx : Nat → Int32) (zw : Nat → Int) (zU : UL) (zl : Nat → List Cls) (zWI : Nat → Nat → Int) (zLI : Nat → Nat → List Cls) (zft : Int) (zsp : Int) (zmd : Int) (zla : Int) (zrf : Nat → Int32) (zD : ODr) (wx wm : va_W) (H : Heap) (locs : List Loc) (ls : Array Slot), CX cs h0 kx lx tx zw zU zl zWI zLI zft zsp zmd zla zrf zD wx → CM cs m0 kx lx tx zw zU zl zWI zLI zft zsp zmd zla zrf zD wm → va_P G vwCl (wx ++ wm) H → va_D A (wx ++ wm) → va_S A s.heap H locs → lv_has ls 4 [(0, Value.ref sb), (1, Value.ref h0), (2, Value.ref m0), (3, Value.int i)] → W p l e room_1 s m #[Value.ref sb] below meth c H locs (cells + 3) (slots + 464) Q (F0 m 1456 ls [])) {kx : Nat → Int32} {lx : Int32} {tx : Nat → Int32} {zw : Nat → Int} {zU : UL} {zl : Nat → List Cls} {zWI : Nat → Nat → Int} {zLI : Nat → Nat → List Cls} {zft : Int} {zsp : Int} {zmd : Int} {zla : Int} {zrf : Nat → Int32} {zD : ODr} {wx wm : va_W} {H : Heap} {locs : List Loc} {ls : Array Slot} (hCX : CX cs h0 kx lx tx zw zU zl zWI zLI zft zsp zmd zla zrf zD wx) (hCM : CM cs m0 kx lx tx zw zU zl zWI zLI zft zsp zmd zla zrf zD wm) (hP : va_P G vwCl (wx ++ wm) H) (hD : va_D A (wx ++ wm)) (hS : va_S A s.heap H locs) (hl : lv_has ls 4 [(0, Value.ref sb), (1, Value.ref h0), (2, Value.ref m0), (3, Value.int i)]) : W p l e room_1 s m #[Value.ref sb] below meth c H locs cells slots Q (F0 m 356 ls []) := by
  obtain ⟨hx, hb, hr, hml, hown, hts, hX, hbl, hlocks, hgv⟩ := id C0
  have hb : c.code = cL_law := hb
  have hown : s.vm.findClass RL = some m.cls := hown
  have htl := gW_l hts
  have hf : cells ≤ 590000 ∧ slots ≤ 7300000 := (by first | with_reducible assumption | exact ⟨by omega, by omega⟩)
  refine lv_aload_n hx hb dL_law_356 rfl (lv_at hl 1 rfl) ?_
  refine lv_aload_n hx hb dL_law_357 rfl (lv_at hl 0 rfl) ?_
  refine lv_iload_n hx hb dL_law_358 rfl (lv_at hl 3 rfl) ?_
  refine lv_iconst (v := 1) hx hb dL_law_359 (by decide) ?_
  refine lv_iadd hx hb dL_law_360 ?_
  refine lv_topi (fun ix0 ex0 => ?_)
  refine va_sld hx hb hX hbl hbA hS (ix_in hi0 hi1 hL ex0 (by decide) (by decide)) dL_law_361 ?_
  refine lv_topi (fun a0 ea0 => ?_)
  refine lv_aload_n hx hb dL_law_362 rfl (lv_at hl 0 rfl) ?_
  refine lv_iload_n hx hb dL_law_363 rfl (lv_at hl 3 rfl) ?_
  refine lv_iconst (v := 2) hx hb dL_law_364 (by decide) ?_
  refine lv_iadd hx hb dL_law_365 ?_
  refine lv_topi (fun ix1 ex1 => ?_)
  refine va_sld hx hb hX hbl hbA hS (ix_in hi0 hi1 hL ex1 (by decide) (by decide)) dL_law_366 ?_
  refine lv_topi (fun a1 ea1 => ?_)
  refine cx_listener l C0 hA hN hK hxe hZ a0 a1 hCX hP hD hS hl.1 hf (fun r wx H locs hans hCX hP hD hS => ?_)
  refine lv_pop hx hb dL_law_370 rfl ?_
  refine lv_aload_n hx hb dL_law_371 rfl (lv_at hl 2 rfl) ?_
  refine lv_aload_n hx hb dL_law_372 rfl (lv_at hl 0 rfl) ?_
  refine lv_iload_n hx hb dL_law_373 rfl (lv_at hl 3 rfl) ?_
  refine lv_iconst (v := 1) hx hb dL_law_374 (by decide) ?_
  refine lv_iadd hx hb dL_law_375 ?_
  refine lv_topi (fun ix2 ex2 => ?_)
  refine va_sld hx hb hX hbl hbA hS (ix_in hi0 hi1 hL ex2 (by decide) (by decide)) dL_law_376 ?_
  refine lv_topi (fun a2 ea2 => ?_)
  refine lv_aload_n hx hb dL_law_377 rfl (lv_at hl 0 rfl) ?_
  refine lv_iload_n hx hb dL_law_378 rfl (lv_at hl 3 rfl) ?_
  refine lv_iconst (v := 2) hx hb dL_law_379 (by decide) ?_
  refine lv_iadd hx hb dL_law_380 ?_
  refine lv_topi (fun ix3 ex3 => ?_)
  refine va_sld hx hb hX hbl hbA hS (ix_in hi0 hi1 hL ex3 (by decide) (by decide)) dL_law_381 ?_
  refine lv_topi (fun a3 ea3 => ?_)
  have e_a2 : a2 = a0 := ea2.trans (by rw [ex2, ← ex0]; exact ea0.symm)
  rw [e_a2]
  have e_a3 : a3 = a1 := ea3.trans (by rw [ex3, ← ex1]; exact ea1.symm)
  rw [e_a3]
  refine cm_listener l C0 hA hN hK (Nat.le_of_ble_eq_true rfl) a0 a1 hCM (P_perm List.perm_append_comm hP) (D_perm List.perm_append_comm hD) hS hl.1 hf (fun r2 wm H locs hans2 hCM hP hD hS => ?_)
  replace hP := P_perm List.perm_append_comm hP
  replace hD := D_perm List.perm_append_comm hD
  refine lv_pop hx hb dL_law_385 rfl ?_
  refine lv_goto (tgt := 1456) hx hb dL_law_386 (by decide) ?_
  refine W.widen (k := cells + 3) (n := slots + 464) (by omega) (by omega) ?_
  exact K _ _ _ _ _ _ _ _ _ _ _ _ _ _ wx wm _ _ ls hCX hCM hP hD hS hl

set_option maxHeartbeats 1000000 in
set_option maxRecDepth 100000 in
theorem lw_c_noise {p : Program} {e : Env} {s : State} {m : MethodId} {below : List Frame} {meth : Method} {c : Code} (l : Launch) {sb L : Nat} {xs : Nat → Int32} {A : Nat → Prop} (C0 : lw_At p s m meth c sb L xs) (hL : L ≤ 3072) (hA : ∀ q, s.heap.size ≤ q → A q) (hbA : ¬ A sb) {G : va_G} {cs : Nat → ClassId} {xe : XE} (hN : NW s) (hK : va_K G vwCl (tyL cs) s) (hxe : isRf xe.2.2) (hZ : XZ xe A s) {Q : State → Prop} {h0 m0 : Nat} {cells slots : Nat} (hf : cells ≤ 580000 ∧ slots ≤ 7290000) {i : Int32} (hi0 : 0 ≤ i.toInt) (hi1 : i.toInt + 6 ≤ (L : Int)) (K : ∀ (kx : Nat → Int32) (lx : Int32) (tx : Nat → Int32) (zw : Nat → Int) (zU : UL) (zl : Nat → List Cls) (zWI : Nat → Nat → Int) (zLI : Nat → Nat → List Cls) (zft : Int) (zsp : Int) (zmd : Int) (zla : Int) (zrf : Nat → Int32) (zD : ODr) (wx wm : va_W) (H : Heap) (locs : List Loc) (ls : Array Slot), CX cs h0 kx lx tx zw zU zl zWI zLI zft zsp zmd zla zrf zD wx → CM cs m0 kx lx tx zw zU zl zWI zLI zft zsp zmd zla zrf zD wm → va_P G vwCl (wx ++ wm) H → va_D A (wx ++ wm) → va_S A s.heap H locs → lv_has ls 4 [(0, Value.ref sb), (1, Value.ref h0), (2, Value.ref m0), (3, Value.int i)] → W p l e room_1 s m #[Value.ref sb] below meth c H locs (cells + 3) (slots + 464) Q (F0 m 1456 ls [])) {kx : Nat → Int32} {lx : Int32} {tx : Nat → Int32} {zw : Nat → Int} {zU : UL} {zl : Nat → List Cls} {zWI : Nat → Nat → Int} {zLI : Nat → Nat → List Cls} {zft : Int} {zsp : Int} {zmd : Int} {zla : Int} {zrf : Nat → Int32} {zD : ODr} {wx wm : va_W} {H : Heap} {locs : List Loc} {ls : Array Slot} (hCX : CX cs h0 kx lx tx zw zU zl zWI zLI zft zsp zmd zla zrf zD wx) (hCM : CM cs m0 kx lx tx zw zU zl zWI zLI zft zsp zmd zla zrf zD wm) (hP : va_P G vwCl (wx ++ wm) H) (hD : va_D A (wx ++ wm)) (hS : va_S A s.heap H locs) (hl : lv_has ls 4 [(0, Value.ref sb), (1, Value.ref h0), (2, Value.ref m0), (3, Value.int i)]) : W p l e room_1 s m #[Value.ref sb] below meth c H locs cells slots Q (F0 m 389 ls []) := by
  obtain ⟨hx, hb, hr, hml, hown, hts, hX, hbl, hlocks, hgv⟩ := id C0
  have hb : c.code = cL_law := hb
  have hown : s.vm.findClass RL = some m.cls := hown
  have htl := gW_l hts
  have hf : cells ≤ 590000 ∧ slots ≤ 7300000 := (by first | with_reducible assumption | exact ⟨by omega, by omega⟩)
  refine lv_aload_n hx hb dL_law_389 rfl (lv_at hl 1 rfl) ?_
  refine lv_aload_n hx hb dL_law_390 rfl (lv_at hl 0 rfl) ?_
  refine lv_iload_n hx hb dL_law_391 rfl (lv_at hl 3 rfl) ?_
  refine lv_iconst (v := 1) hx hb dL_law_392 (by decide) ?_
  refine lv_iadd hx hb dL_law_393 ?_
  refine lv_topi (fun ix0 ex0 => ?_)
  refine va_sld hx hb hX hbl hbA hS (ix_in hi0 hi1 hL ex0 (by decide) (by decide)) dL_law_394 ?_
  refine lv_topi (fun a0 ea0 => ?_)
  refine lv_aload_n hx hb dL_law_395 rfl (lv_at hl 0 rfl) ?_
  refine lv_iload_n hx hb dL_law_396 rfl (lv_at hl 3 rfl) ?_
  refine lv_iconst (v := 2) hx hb dL_law_397 (by decide) ?_
  refine lv_iadd hx hb dL_law_398 ?_
  refine lv_topi (fun ix1 ex1 => ?_)
  refine va_sld hx hb hX hbl hbA hS (ix_in hi0 hi1 hL ex1 (by decide) (by decide)) dL_law_399 ?_
  refine lv_topi (fun a1 ea1 => ?_)
  refine cx_noise l C0 hA hN hK hxe hZ a0 a1 hCX hP hD hS hl.1 hf (fun r wx H locs hans hCX hP hD hS => ?_)
  refine lv_aload_n hx hb dL_law_403 rfl (lv_at hl 2 rfl) ?_
  refine lv_aload_n hx hb dL_law_404 rfl (lv_at hl 0 rfl) ?_
  refine lv_iload_n hx hb dL_law_405 rfl (lv_at hl 3 rfl) ?_
  refine lv_iconst (v := 1) hx hb dL_law_406 (by decide) ?_
  refine lv_iadd hx hb dL_law_407 ?_
  refine lv_topi (fun ix2 ex2 => ?_)
  refine va_sld hx hb hX hbl hbA hS (ix_in hi0 hi1 hL ex2 (by decide) (by decide)) dL_law_408 ?_
  refine lv_topi (fun a2 ea2 => ?_)
  refine lv_aload_n hx hb dL_law_409 rfl (lv_at hl 0 rfl) ?_
  refine lv_iload_n hx hb dL_law_410 rfl (lv_at hl 3 rfl) ?_
  refine lv_iconst (v := 2) hx hb dL_law_411 (by decide) ?_
  refine lv_iadd hx hb dL_law_412 ?_
  refine lv_topi (fun ix3 ex3 => ?_)
  refine va_sld hx hb hX hbl hbA hS (ix_in hi0 hi1 hL ex3 (by decide) (by decide)) dL_law_413 ?_
  refine lv_topi (fun a3 ea3 => ?_)
  have e_a2 : a2 = a0 := ea2.trans (by rw [ex2, ← ex0]; exact ea0.symm)
  rw [e_a2]
  have e_a3 : a3 = a1 := ea3.trans (by rw [ex3, ← ex1]; exact ea1.symm)
  rw [e_a3]
  refine cm_noise l C0 hA hN hK (Nat.le_of_ble_eq_true rfl) a0 a1 hCM (P_perm List.perm_append_comm hP) (D_perm List.perm_append_comm hD) hS hl.1 hf (fun r2 wm H locs hans2 hCM hP hD hS => ?_)
  replace hP := P_perm List.perm_append_comm hP
  replace hD := D_perm List.perm_append_comm hD
  refine lv_icmp_eq (tgt := 1456) hx hb dL_law_417 (by decide) (fun _ => ?_) (fun h9 => absurd (Int32.toInt_inj.mp (hans.trans hans2.symm)) h9)
  refine W.widen (k := cells + 3) (n := slots + 464) (by omega) (by omega) ?_
  exact K _ _ _ _ _ _ _ _ _ _ _ _ _ _ wx wm _ _ ls hCX hCM hP hD hS hl

set_option maxHeartbeats 1000000 in
set_option maxRecDepth 100000 in
theorem lw_c_who {p : Program} {e : Env} {s : State} {m : MethodId} {below : List Frame} {meth : Method} {c : Code} (l : Launch) {sb L : Nat} {xs : Nat → Int32} {A : Nat → Prop} (C0 : lw_At p s m meth c sb L xs) (hL : L ≤ 3072) (hA : ∀ q, s.heap.size ≤ q → A q) (hbA : ¬ A sb) {G : va_G} {cs : Nat → ClassId} {xe : XE} (hN : NW s) (hK : va_K G vwCl (tyL cs) s) (hxe : isRf xe.2.2) (hZ : XZ xe A s) {Q : State → Prop} {h0 m0 : Nat} {cells slots : Nat} (hf : cells ≤ 580000 ∧ slots ≤ 7290000) {i : Int32} (hi0 : 0 ≤ i.toInt) (hi1 : i.toInt + 6 ≤ (L : Int)) (K : ∀ (kx : Nat → Int32) (lx : Int32) (tx : Nat → Int32) (zw : Nat → Int) (zU : UL) (zl : Nat → List Cls) (zWI : Nat → Nat → Int) (zLI : Nat → Nat → List Cls) (zft : Int) (zsp : Int) (zmd : Int) (zla : Int) (zrf : Nat → Int32) (zD : ODr) (wx wm : va_W) (H : Heap) (locs : List Loc) (ls : Array Slot), CX cs h0 kx lx tx zw zU zl zWI zLI zft zsp zmd zla zrf zD wx → CM cs m0 kx lx tx zw zU zl zWI zLI zft zsp zmd zla zrf zD wm → va_P G vwCl (wx ++ wm) H → va_D A (wx ++ wm) → va_S A s.heap H locs → lv_has ls 4 [(0, Value.ref sb), (1, Value.ref h0), (2, Value.ref m0), (3, Value.int i)] → W p l e room_1 s m #[Value.ref sb] below meth c H locs (cells + 3) (slots + 464) Q (F0 m 1456 ls [])) {kx : Nat → Int32} {lx : Int32} {tx : Nat → Int32} {zw : Nat → Int} {zU : UL} {zl : Nat → List Cls} {zWI : Nat → Nat → Int} {zLI : Nat → Nat → List Cls} {zft : Int} {zsp : Int} {zmd : Int} {zla : Int} {zrf : Nat → Int32} {zD : ODr} {wx wm : va_W} {H : Heap} {locs : List Loc} {ls : Array Slot} (hCX : CX cs h0 kx lx tx zw zU zl zWI zLI zft zsp zmd zla zrf zD wx) (hCM : CM cs m0 kx lx tx zw zU zl zWI zLI zft zsp zmd zla zrf zD wm) (hP : va_P G vwCl (wx ++ wm) H) (hD : va_D A (wx ++ wm)) (hS : va_S A s.heap H locs) (hl : lv_has ls 4 [(0, Value.ref sb), (1, Value.ref h0), (2, Value.ref m0), (3, Value.int i)]) : W p l e room_1 s m #[Value.ref sb] below meth c H locs cells slots Q (F0 m 422 ls []) := by
  obtain ⟨hx, hb, hr, hml, hown, hts, hX, hbl, hlocks, hgv⟩ := id C0
  have hb : c.code = cL_law := hb
  have hown : s.vm.findClass RL = some m.cls := hown
  have htl := gW_l hts
  have hf : cells ≤ 590000 ∧ slots ≤ 7300000 := (by first | with_reducible assumption | exact ⟨by omega, by omega⟩)
  refine lv_aload_n hx hb dL_law_422 rfl (lv_at hl 1 rfl) ?_
  refine lv_aload_n hx hb dL_law_423 rfl (lv_at hl 0 rfl) ?_
  refine lv_iload_n hx hb dL_law_424 rfl (lv_at hl 3 rfl) ?_
  refine lv_iconst (v := 1) hx hb dL_law_425 (by decide) ?_
  refine lv_iadd hx hb dL_law_426 ?_
  refine lv_topi (fun ix0 ex0 => ?_)
  refine va_sld hx hb hX hbl hbA hS (ix_in hi0 hi1 hL ex0 (by decide) (by decide)) dL_law_427 ?_
  refine lv_topi (fun a0 ea0 => ?_)
  refine lv_aload_n hx hb dL_law_428 rfl (lv_at hl 0 rfl) ?_
  refine lv_iload_n hx hb dL_law_429 rfl (lv_at hl 3 rfl) ?_
  refine lv_iconst (v := 2) hx hb dL_law_430 (by decide) ?_
  refine lv_iadd hx hb dL_law_431 ?_
  refine lv_topi (fun ix1 ex1 => ?_)
  refine va_sld hx hb hX hbl hbA hS (ix_in hi0 hi1 hL ex1 (by decide) (by decide)) dL_law_432 ?_
  refine lv_topi (fun a1 ea1 => ?_)
  refine cx_who l C0 hA hN hK hxe hZ a0 a1 hCX hP hD hS hl.1 hf (fun r wx H locs hans hCX hP hD hS => ?_)
  refine lv_pop hx hb dL_law_436 rfl ?_
  refine lv_aload_n hx hb dL_law_437 rfl (lv_at hl 2 rfl) ?_
  refine lv_aload_n hx hb dL_law_438 rfl (lv_at hl 0 rfl) ?_
  refine lv_iload_n hx hb dL_law_439 rfl (lv_at hl 3 rfl) ?_
  refine lv_iconst (v := 1) hx hb dL_law_440 (by decide) ?_
  refine lv_iadd hx hb dL_law_441 ?_
  refine lv_topi (fun ix2 ex2 => ?_)
  refine va_sld hx hb hX hbl hbA hS (ix_in hi0 hi1 hL ex2 (by decide) (by decide)) dL_law_442 ?_
  refine lv_topi (fun a2 ea2 => ?_)
  refine lv_aload_n hx hb dL_law_443 rfl (lv_at hl 0 rfl) ?_
  refine lv_iload_n hx hb dL_law_444 rfl (lv_at hl 3 rfl) ?_
  refine lv_iconst (v := 2) hx hb dL_law_445 (by decide) ?_
  refine lv_iadd hx hb dL_law_446 ?_
  refine lv_topi (fun ix3 ex3 => ?_)
  refine va_sld hx hb hX hbl hbA hS (ix_in hi0 hi1 hL ex3 (by decide) (by decide)) dL_law_447 ?_
  refine lv_topi (fun a3 ea3 => ?_)
  have e_a2 : a2 = a0 := ea2.trans (by rw [ex2, ← ex0]; exact ea0.symm)
  rw [e_a2]
  have e_a3 : a3 = a1 := ea3.trans (by rw [ex3, ← ex1]; exact ea1.symm)
  rw [e_a3]
  refine cm_who l C0 hA hN hK (Nat.le_of_ble_eq_true rfl) a0 a1 hCM (P_perm List.perm_append_comm hP) (D_perm List.perm_append_comm hD) hS hl.1 hf (fun r2 wm H locs hans2 hCM hP hD hS => ?_)
  replace hP := P_perm List.perm_append_comm hP
  replace hD := D_perm List.perm_append_comm hD
  refine lv_pop hx hb dL_law_451 rfl ?_
  refine lv_goto (tgt := 1456) hx hb dL_law_452 (by decide) ?_
  refine W.widen (k := cells + 3) (n := slots + 464) (by omega) (by omega) ?_
  exact K _ _ _ _ _ _ _ _ _ _ _ _ _ _ wx wm _ _ ls hCX hCM hP hD hS hl

set_option maxHeartbeats 1000000 in
set_option maxRecDepth 100000 in
theorem lw_c_terms {p : Program} {e : Env} {s : State} {m : MethodId} {below : List Frame} {meth : Method} {c : Code} (l : Launch) {sb L : Nat} {xs : Nat → Int32} {A : Nat → Prop} (C0 : lw_At p s m meth c sb L xs) (hL : L ≤ 3072) (hA : ∀ q, s.heap.size ≤ q → A q) (hbA : ¬ A sb) {G : va_G} {cs : Nat → ClassId} {xe : XE} (hN : NW s) (hK : va_K G vwCl (tyL cs) s) (hxe : isRf xe.2.2) (hZ : XZ xe A s) {Q : State → Prop} {h0 m0 : Nat} {cells slots : Nat} (hf : cells ≤ 580000 ∧ slots ≤ 7290000) {i : Int32} (hi0 : 0 ≤ i.toInt) (hi1 : i.toInt + 6 ≤ (L : Int)) (K : ∀ (kx : Nat → Int32) (lx : Int32) (tx : Nat → Int32) (zw : Nat → Int) (zU : UL) (zl : Nat → List Cls) (zWI : Nat → Nat → Int) (zLI : Nat → Nat → List Cls) (zft : Int) (zsp : Int) (zmd : Int) (zla : Int) (zrf : Nat → Int32) (zD : ODr) (wx wm : va_W) (H : Heap) (locs : List Loc) (ls : Array Slot), CX cs h0 kx lx tx zw zU zl zWI zLI zft zsp zmd zla zrf zD wx → CM cs m0 kx lx tx zw zU zl zWI zLI zft zsp zmd zla zrf zD wm → va_P G vwCl (wx ++ wm) H → va_D A (wx ++ wm) → va_S A s.heap H locs → lv_has ls 4 [(0, Value.ref sb), (1, Value.ref h0), (2, Value.ref m0), (3, Value.int i)] → W p l e room_1 s m #[Value.ref sb] below meth c H locs (cells + 3) (slots + 464) Q (F0 m 1456 ls [])) {kx : Nat → Int32} {lx : Int32} {tx : Nat → Int32} {zw : Nat → Int} {zU : UL} {zl : Nat → List Cls} {zWI : Nat → Nat → Int} {zLI : Nat → Nat → List Cls} {zft : Int} {zsp : Int} {zmd : Int} {zla : Int} {zrf : Nat → Int32} {zD : ODr} {wx wm : va_W} {H : Heap} {locs : List Loc} {ls : Array Slot} (hCX : CX cs h0 kx lx tx zw zU zl zWI zLI zft zsp zmd zla zrf zD wx) (hCM : CM cs m0 kx lx tx zw zU zl zWI zLI zft zsp zmd zla zrf zD wm) (hP : va_P G vwCl (wx ++ wm) H) (hD : va_D A (wx ++ wm)) (hS : va_S A s.heap H locs) (hl : lv_has ls 4 [(0, Value.ref sb), (1, Value.ref h0), (2, Value.ref m0), (3, Value.int i)]) : W p l e room_1 s m #[Value.ref sb] below meth c H locs cells slots Q (F0 m 455 ls []) := by
  obtain ⟨hx, hb, hr, hml, hown, hts, hX, hbl, hlocks, hgv⟩ := id C0
  have hb : c.code = cL_law := hb
  have hown : s.vm.findClass RL = some m.cls := hown
  have htl := gW_l hts
  have hf : cells ≤ 590000 ∧ slots ≤ 7300000 := (by first | with_reducible assumption | exact ⟨by omega, by omega⟩)
  refine lv_aload_n hx hb dL_law_455 rfl (lv_at hl 1 rfl) ?_
  refine lv_aload_n hx hb dL_law_456 rfl (lv_at hl 0 rfl) ?_
  refine lv_iload_n hx hb dL_law_457 rfl (lv_at hl 3 rfl) ?_
  refine lv_iconst (v := 1) hx hb dL_law_458 (by decide) ?_
  refine lv_iadd hx hb dL_law_459 ?_
  refine lv_topi (fun ix0 ex0 => ?_)
  refine va_sld hx hb hX hbl hbA hS (ix_in hi0 hi1 hL ex0 (by decide) (by decide)) dL_law_460 ?_
  refine lv_topi (fun a0 ea0 => ?_)
  refine lv_aload_n hx hb dL_law_461 rfl (lv_at hl 0 rfl) ?_
  refine lv_iload_n hx hb dL_law_462 rfl (lv_at hl 3 rfl) ?_
  refine lv_iconst (v := 2) hx hb dL_law_463 (by decide) ?_
  refine lv_iadd hx hb dL_law_464 ?_
  refine lv_topi (fun ix1 ex1 => ?_)
  refine va_sld hx hb hX hbl hbA hS (ix_in hi0 hi1 hL ex1 (by decide) (by decide)) dL_law_465 ?_
  refine lv_topi (fun a1 ea1 => ?_)
  refine cx_terms l C0 hA hN hK hxe hZ a0 a1 hCX hP hD hS hl.1 hf (fun r wx H locs hans hCX hP hD hS => ?_)
  refine lv_pop hx hb dL_law_469 rfl ?_
  refine lv_aload_n hx hb dL_law_470 rfl (lv_at hl 2 rfl) ?_
  refine lv_aload_n hx hb dL_law_471 rfl (lv_at hl 0 rfl) ?_
  refine lv_iload_n hx hb dL_law_472 rfl (lv_at hl 3 rfl) ?_
  refine lv_iconst (v := 1) hx hb dL_law_473 (by decide) ?_
  refine lv_iadd hx hb dL_law_474 ?_
  refine lv_topi (fun ix2 ex2 => ?_)
  refine va_sld hx hb hX hbl hbA hS (ix_in hi0 hi1 hL ex2 (by decide) (by decide)) dL_law_475 ?_
  refine lv_topi (fun a2 ea2 => ?_)
  refine lv_aload_n hx hb dL_law_476 rfl (lv_at hl 0 rfl) ?_
  refine lv_iload_n hx hb dL_law_477 rfl (lv_at hl 3 rfl) ?_
  refine lv_iconst (v := 2) hx hb dL_law_478 (by decide) ?_
  refine lv_iadd hx hb dL_law_479 ?_
  refine lv_topi (fun ix3 ex3 => ?_)
  refine va_sld hx hb hX hbl hbA hS (ix_in hi0 hi1 hL ex3 (by decide) (by decide)) dL_law_480 ?_
  refine lv_topi (fun a3 ea3 => ?_)
  have e_a2 : a2 = a0 := ea2.trans (by rw [ex2, ← ex0]; exact ea0.symm)
  rw [e_a2]
  have e_a3 : a3 = a1 := ea3.trans (by rw [ex3, ← ex1]; exact ea1.symm)
  rw [e_a3]
  refine cm_terms l C0 hA hN hK (Nat.le_of_ble_eq_true rfl) a0 a1 hCM (P_perm List.perm_append_comm hP) (D_perm List.perm_append_comm hD) hS hl.1 hf (fun r2 wm H locs hans2 hCM hP hD hS => ?_)
  replace hP := P_perm List.perm_append_comm hP
  replace hD := D_perm List.perm_append_comm hD
  refine lv_pop hx hb dL_law_484 rfl ?_
  refine lv_goto (tgt := 1456) hx hb dL_law_485 (by decide) ?_
  refine W.widen (k := cells + 3) (n := slots + 464) (by omega) (by omega) ?_
  exact K _ _ _ _ _ _ _ _ _ _ _ _ _ _ wx wm _ _ ls hCX hCM hP hD hS hl

set_option maxHeartbeats 1000000 in
set_option maxRecDepth 100000 in
theorem lw_c_feed {p : Program} {e : Env} {s : State} {m : MethodId} {below : List Frame} {meth : Method} {c : Code} (l : Launch) {sb L : Nat} {xs : Nat → Int32} {A : Nat → Prop} (C0 : lw_At p s m meth c sb L xs) (hL : L ≤ 3072) (hA : ∀ q, s.heap.size ≤ q → A q) (hbA : ¬ A sb) {G : va_G} {cs : Nat → ClassId} {xe : XE} (hN : NW s) (hK : va_K G vwCl (tyL cs) s) (hxe : isRf xe.2.2) (hZ : XZ xe A s) {Q : State → Prop} {h0 m0 : Nat} {cells slots : Nat} (hf : cells ≤ 580000 ∧ slots ≤ 7290000) {i : Int32} (hi0 : 0 ≤ i.toInt) (hi1 : i.toInt + 6 ≤ (L : Int)) (K : ∀ (kx : Nat → Int32) (lx : Int32) (tx : Nat → Int32) (zw : Nat → Int) (zU : UL) (zl : Nat → List Cls) (zWI : Nat → Nat → Int) (zLI : Nat → Nat → List Cls) (zft : Int) (zsp : Int) (zmd : Int) (zla : Int) (zrf : Nat → Int32) (zD : ODr) (wx wm : va_W) (H : Heap) (locs : List Loc) (ls : Array Slot), CX cs h0 kx lx tx zw zU zl zWI zLI zft zsp zmd zla zrf zD wx → CM cs m0 kx lx tx zw zU zl zWI zLI zft zsp zmd zla zrf zD wm → va_P G vwCl (wx ++ wm) H → va_D A (wx ++ wm) → va_S A s.heap H locs → lv_has ls 4 [(0, Value.ref sb), (1, Value.ref h0), (2, Value.ref m0), (3, Value.int i)] → W p l e room_1 s m #[Value.ref sb] below meth c H locs (cells + 3) (slots + 464) Q (F0 m 1456 ls [])) {kx : Nat → Int32} {lx : Int32} {tx : Nat → Int32} {zw : Nat → Int} {zU : UL} {zl : Nat → List Cls} {zWI : Nat → Nat → Int} {zLI : Nat → Nat → List Cls} {zft : Int} {zsp : Int} {zmd : Int} {zla : Int} {zrf : Nat → Int32} {zD : ODr} {wx wm : va_W} {H : Heap} {locs : List Loc} {ls : Array Slot} (hCX : CX cs h0 kx lx tx zw zU zl zWI zLI zft zsp zmd zla zrf zD wx) (hCM : CM cs m0 kx lx tx zw zU zl zWI zLI zft zsp zmd zla zrf zD wm) (hP : va_P G vwCl (wx ++ wm) H) (hD : va_D A (wx ++ wm)) (hS : va_S A s.heap H locs) (hl : lv_has ls 4 [(0, Value.ref sb), (1, Value.ref h0), (2, Value.ref m0), (3, Value.int i)]) : W p l e room_1 s m #[Value.ref sb] below meth c H locs cells slots Q (F0 m 488 ls []) := by
  obtain ⟨hx, hb, hr, hml, hown, hts, hX, hbl, hlocks, hgv⟩ := id C0
  have hb : c.code = cL_law := hb
  have hown : s.vm.findClass RL = some m.cls := hown
  have htl := gW_l hts
  have hf : cells ≤ 590000 ∧ slots ≤ 7300000 := (by first | with_reducible assumption | exact ⟨by omega, by omega⟩)
  refine lv_aload_n hx hb dL_law_488 rfl (lv_at hl 1 rfl) ?_
  refine lv_aload_n hx hb dL_law_489 rfl (lv_at hl 0 rfl) ?_
  refine lv_iload_n hx hb dL_law_490 rfl (lv_at hl 3 rfl) ?_
  refine lv_iconst (v := 1) hx hb dL_law_491 (by decide) ?_
  refine lv_iadd hx hb dL_law_492 ?_
  refine lv_topi (fun ix0 ex0 => ?_)
  refine va_sld hx hb hX hbl hbA hS (ix_in hi0 hi1 hL ex0 (by decide) (by decide)) dL_law_493 ?_
  refine lv_topi (fun a0 ea0 => ?_)
  refine lv_aload_n hx hb dL_law_494 rfl (lv_at hl 0 rfl) ?_
  refine lv_iload_n hx hb dL_law_495 rfl (lv_at hl 3 rfl) ?_
  refine lv_iconst (v := 2) hx hb dL_law_496 (by decide) ?_
  refine lv_iadd hx hb dL_law_497 ?_
  refine lv_topi (fun ix1 ex1 => ?_)
  refine va_sld hx hb hX hbl hbA hS (ix_in hi0 hi1 hL ex1 (by decide) (by decide)) dL_law_498 ?_
  refine lv_topi (fun a1 ea1 => ?_)
  refine lv_aload_n hx hb dL_law_499 rfl (lv_at hl 0 rfl) ?_
  refine lv_iload_n hx hb dL_law_500 rfl (lv_at hl 3 rfl) ?_
  refine lv_iconst (v := 3) hx hb dL_law_501 (by decide) ?_
  refine lv_iadd hx hb dL_law_502 ?_
  refine lv_topi (fun ix2 ex2 => ?_)
  refine va_sld hx hb hX hbl hbA hS (ix_in hi0 hi1 hL ex2 (by decide) (by decide)) dL_law_503 ?_
  refine lv_topi (fun a2 ea2 => ?_)
  refine lv_aload_n hx hb dL_law_504 rfl (lv_at hl 0 rfl) ?_
  refine lv_iload_n hx hb dL_law_505 rfl (lv_at hl 3 rfl) ?_
  refine lv_iconst (v := 4) hx hb dL_law_506 (by decide) ?_
  refine lv_iadd hx hb dL_law_507 ?_
  refine lv_topi (fun ix3 ex3 => ?_)
  refine va_sld hx hb hX hbl hbA hS (ix_in hi0 hi1 hL ex3 (by decide) (by decide)) dL_law_508 ?_
  refine lv_topi (fun a3 ea3 => ?_)
  refine lv_aload_n hx hb dL_law_509 rfl (lv_at hl 0 rfl) ?_
  refine lv_iload_n hx hb dL_law_510 rfl (lv_at hl 3 rfl) ?_
  refine lv_iconst (v := 5) hx hb dL_law_511 (by decide) ?_
  refine lv_iadd hx hb dL_law_512 ?_
  refine lv_topi (fun ix4 ex4 => ?_)
  refine va_sld hx hb hX hbl hbA hS (ix_in hi0 hi1 hL ex4 (by decide) (by decide)) dL_law_513 ?_
  refine lv_topi (fun a4 ea4 => ?_)
  refine cx_feed l C0 hA hN hK hxe hZ a0 a1 a2 a3 a4 hCX hP hD hS hl.1 hf (fun r wx H locs hans hCX hP hD hS => ?_)
  refine lv_pop hx hb dL_law_517 rfl ?_
  refine lv_aload_n hx hb dL_law_518 rfl (lv_at hl 2 rfl) ?_
  refine lv_aload_n hx hb dL_law_519 rfl (lv_at hl 0 rfl) ?_
  refine lv_iload_n hx hb dL_law_520 rfl (lv_at hl 3 rfl) ?_
  refine lv_iconst (v := 1) hx hb dL_law_521 (by decide) ?_
  refine lv_iadd hx hb dL_law_522 ?_
  refine lv_topi (fun ix5 ex5 => ?_)
  refine va_sld hx hb hX hbl hbA hS (ix_in hi0 hi1 hL ex5 (by decide) (by decide)) dL_law_523 ?_
  refine lv_topi (fun a5 ea5 => ?_)
  refine lv_aload_n hx hb dL_law_524 rfl (lv_at hl 0 rfl) ?_
  refine lv_iload_n hx hb dL_law_525 rfl (lv_at hl 3 rfl) ?_
  refine lv_iconst (v := 2) hx hb dL_law_526 (by decide) ?_
  refine lv_iadd hx hb dL_law_527 ?_
  refine lv_topi (fun ix6 ex6 => ?_)
  refine va_sld hx hb hX hbl hbA hS (ix_in hi0 hi1 hL ex6 (by decide) (by decide)) dL_law_528 ?_
  refine lv_topi (fun a6 ea6 => ?_)
  refine lv_aload_n hx hb dL_law_529 rfl (lv_at hl 0 rfl) ?_
  refine lv_iload_n hx hb dL_law_530 rfl (lv_at hl 3 rfl) ?_
  refine lv_iconst (v := 3) hx hb dL_law_531 (by decide) ?_
  refine lv_iadd hx hb dL_law_532 ?_
  refine lv_topi (fun ix7 ex7 => ?_)
  refine va_sld hx hb hX hbl hbA hS (ix_in hi0 hi1 hL ex7 (by decide) (by decide)) dL_law_533 ?_
  refine lv_topi (fun a7 ea7 => ?_)
  refine lv_aload_n hx hb dL_law_534 rfl (lv_at hl 0 rfl) ?_
  refine lv_iload_n hx hb dL_law_535 rfl (lv_at hl 3 rfl) ?_
  refine lv_iconst (v := 4) hx hb dL_law_536 (by decide) ?_
  refine lv_iadd hx hb dL_law_537 ?_
  refine lv_topi (fun ix8 ex8 => ?_)
  refine va_sld hx hb hX hbl hbA hS (ix_in hi0 hi1 hL ex8 (by decide) (by decide)) dL_law_538 ?_
  refine lv_topi (fun a8 ea8 => ?_)
  refine lv_aload_n hx hb dL_law_539 rfl (lv_at hl 0 rfl) ?_
  refine lv_iload_n hx hb dL_law_540 rfl (lv_at hl 3 rfl) ?_
  refine lv_iconst (v := 5) hx hb dL_law_541 (by decide) ?_
  refine lv_iadd hx hb dL_law_542 ?_
  refine lv_topi (fun ix9 ex9 => ?_)
  refine va_sld hx hb hX hbl hbA hS (ix_in hi0 hi1 hL ex9 (by decide) (by decide)) dL_law_543 ?_
  refine lv_topi (fun a9 ea9 => ?_)
  have e_a5 : a5 = a0 := ea5.trans (by rw [ex5, ← ex0]; exact ea0.symm)
  rw [e_a5]
  have e_a6 : a6 = a1 := ea6.trans (by rw [ex6, ← ex1]; exact ea1.symm)
  rw [e_a6]
  have e_a7 : a7 = a2 := ea7.trans (by rw [ex7, ← ex2]; exact ea2.symm)
  rw [e_a7]
  have e_a8 : a8 = a3 := ea8.trans (by rw [ex8, ← ex3]; exact ea3.symm)
  rw [e_a8]
  have e_a9 : a9 = a4 := ea9.trans (by rw [ex9, ← ex4]; exact ea4.symm)
  rw [e_a9]
  refine cm_feed l C0 hA hN hK (Nat.le_of_ble_eq_true rfl) a0 a1 a2 a3 a4 hCM (P_perm List.perm_append_comm hP) (D_perm List.perm_append_comm hD) hS hl.1 hf (fun r2 wm H locs hans2 hCM hP hD hS => ?_)
  replace hP := P_perm List.perm_append_comm hP
  replace hD := D_perm List.perm_append_comm hD
  refine lv_pop hx hb dL_law_547 rfl ?_
  refine lv_goto (tgt := 1456) hx hb dL_law_548 (by decide) ?_
  refine W.widen (k := cells + 3) (n := slots + 464) (by omega) (by omega) ?_
  exact K _ _ _ _ _ _ _ _ _ _ _ _ _ _ wx wm _ _ ls hCX hCM hP hD hS hl

set_option maxHeartbeats 1000000 in
set_option maxRecDepth 100000 in
theorem lw_c_end {p : Program} {e : Env} {s : State} {m : MethodId} {below : List Frame} {meth : Method} {c : Code} (l : Launch) {sb L : Nat} {xs : Nat → Int32} {A : Nat → Prop} (C0 : lw_At p s m meth c sb L xs) (hL : L ≤ 3072) (hA : ∀ q, s.heap.size ≤ q → A q) (hbA : ¬ A sb) {G : va_G} {cs : Nat → ClassId} {xe : XE} (hN : NW s) (hK : va_K G vwCl (tyL cs) s) (hxe : isRf xe.2.2) (hZ : XZ xe A s) {Q : State → Prop} {h0 m0 : Nat} {cells slots : Nat} (hf : cells ≤ 580000 ∧ slots ≤ 7290000) {i : Int32} (hi0 : 0 ≤ i.toInt) (hi1 : i.toInt + 6 ≤ (L : Int)) (K : ∀ (kx : Nat → Int32) (lx : Int32) (tx : Nat → Int32) (zw : Nat → Int) (zU : UL) (zl : Nat → List Cls) (zWI : Nat → Nat → Int) (zLI : Nat → Nat → List Cls) (zft : Int) (zsp : Int) (zmd : Int) (zla : Int) (zrf : Nat → Int32) (zD : ODr) (wx wm : va_W) (H : Heap) (locs : List Loc) (ls : Array Slot), CX cs h0 kx lx tx zw zU zl zWI zLI zft zsp zmd zla zrf zD wx → CM cs m0 kx lx tx zw zU zl zWI zLI zft zsp zmd zla zrf zD wm → va_P G vwCl (wx ++ wm) H → va_D A (wx ++ wm) → va_S A s.heap H locs → lv_has ls 4 [(0, Value.ref sb), (1, Value.ref h0), (2, Value.ref m0), (3, Value.int i)] → W p l e room_1 s m #[Value.ref sb] below meth c H locs (cells + 3) (slots + 464) Q (F0 m 1456 ls [])) {kx : Nat → Int32} {lx : Int32} {tx : Nat → Int32} {zw : Nat → Int} {zU : UL} {zl : Nat → List Cls} {zWI : Nat → Nat → Int} {zLI : Nat → Nat → List Cls} {zft : Int} {zsp : Int} {zmd : Int} {zla : Int} {zrf : Nat → Int32} {zD : ODr} {wx wm : va_W} {H : Heap} {locs : List Loc} {ls : Array Slot} (hCX : CX cs h0 kx lx tx zw zU zl zWI zLI zft zsp zmd zla zrf zD wx) (hCM : CM cs m0 kx lx tx zw zU zl zWI zLI zft zsp zmd zla zrf zD wm) (hP : va_P G vwCl (wx ++ wm) H) (hD : va_D A (wx ++ wm)) (hS : va_S A s.heap H locs) (hl : lv_has ls 4 [(0, Value.ref sb), (1, Value.ref h0), (2, Value.ref m0), (3, Value.int i)]) : W p l e room_1 s m #[Value.ref sb] below meth c H locs cells slots Q (F0 m 551 ls []) := by
  obtain ⟨hx, hb, hr, hml, hown, hts, hX, hbl, hlocks, hgv⟩ := id C0
  have hb : c.code = cL_law := hb
  have hown : s.vm.findClass RL = some m.cls := hown
  have htl := gW_l hts
  have hf : cells ≤ 590000 ∧ slots ≤ 7300000 := (by first | with_reducible assumption | exact ⟨by omega, by omega⟩)
  refine lv_aload_n hx hb dL_law_551 rfl (lv_at hl 1 rfl) ?_
  refine lv_aload_n hx hb dL_law_552 rfl (lv_at hl 0 rfl) ?_
  refine lv_iload_n hx hb dL_law_553 rfl (lv_at hl 3 rfl) ?_
  refine lv_iconst (v := 1) hx hb dL_law_554 (by decide) ?_
  refine lv_iadd hx hb dL_law_555 ?_
  refine lv_topi (fun ix0 ex0 => ?_)
  refine va_sld hx hb hX hbl hbA hS (ix_in hi0 hi1 hL ex0 (by decide) (by decide)) dL_law_556 ?_
  refine lv_topi (fun a0 ea0 => ?_)
  refine cx_end l C0 hA hN hK hxe hZ a0 hCX hP hD hS hl.1 hf (fun r wx H locs hans hCX hP hD hS => ?_)
  refine lv_pop hx hb dL_law_560 rfl ?_
  refine lv_aload_n hx hb dL_law_561 rfl (lv_at hl 2 rfl) ?_
  refine lv_aload_n hx hb dL_law_562 rfl (lv_at hl 0 rfl) ?_
  refine lv_iload_n hx hb dL_law_563 rfl (lv_at hl 3 rfl) ?_
  refine lv_iconst (v := 1) hx hb dL_law_564 (by decide) ?_
  refine lv_iadd hx hb dL_law_565 ?_
  refine lv_topi (fun ix1 ex1 => ?_)
  refine va_sld hx hb hX hbl hbA hS (ix_in hi0 hi1 hL ex1 (by decide) (by decide)) dL_law_566 ?_
  refine lv_topi (fun a1 ea1 => ?_)
  have e_a1 : a1 = a0 := ea1.trans (by rw [ex1, ← ex0]; exact ea0.symm)
  rw [e_a1]
  refine cm_end l C0 hA hN hK (Nat.le_of_ble_eq_true rfl) a0 hCM (P_perm List.perm_append_comm hP) (D_perm List.perm_append_comm hD) hS hl.1 hf (fun r2 wm H locs hans2 hCM hP hD hS => ?_)
  replace hP := P_perm List.perm_append_comm hP
  replace hD := D_perm List.perm_append_comm hD
  refine lv_pop hx hb dL_law_570 rfl ?_
  refine lv_goto (tgt := 1456) hx hb dL_law_571 (by decide) ?_
  refine W.widen (k := cells + 3) (n := slots + 464) (by omega) (by omega) ?_
  exact K _ _ _ _ _ _ _ _ _ _ _ _ _ _ wx wm _ _ ls hCX hCM hP hD hS hl

set_option maxHeartbeats 1000000 in
set_option maxRecDepth 100000 in
theorem lw_c_row {p : Program} {e : Env} {s : State} {m : MethodId} {below : List Frame} {meth : Method} {c : Code} (l : Launch) {sb L : Nat} {xs : Nat → Int32} {A : Nat → Prop} (C0 : lw_At p s m meth c sb L xs) (hL : L ≤ 3072) (hA : ∀ q, s.heap.size ≤ q → A q) (hbA : ¬ A sb) {G : va_G} {cs : Nat → ClassId} {xe : XE} (hN : NW s) (hK : va_K G vwCl (tyL cs) s) (hxe : isRf xe.2.2) (hZ : XZ xe A s) {Q : State → Prop} {h0 m0 : Nat} {cells slots : Nat} (hf : cells ≤ 580000 ∧ slots ≤ 7290000) {i : Int32} (hi0 : 0 ≤ i.toInt) (hi1 : i.toInt + 6 ≤ (L : Int)) (K : ∀ (kx : Nat → Int32) (lx : Int32) (tx : Nat → Int32) (zw : Nat → Int) (zU : UL) (zl : Nat → List Cls) (zWI : Nat → Nat → Int) (zLI : Nat → Nat → List Cls) (zft : Int) (zsp : Int) (zmd : Int) (zla : Int) (zrf : Nat → Int32) (zD : ODr) (wx wm : va_W) (H : Heap) (locs : List Loc) (ls : Array Slot), CX cs h0 kx lx tx zw zU zl zWI zLI zft zsp zmd zla zrf zD wx → CM cs m0 kx lx tx zw zU zl zWI zLI zft zsp zmd zla zrf zD wm → va_P G vwCl (wx ++ wm) H → va_D A (wx ++ wm) → va_S A s.heap H locs → lv_has ls 4 [(0, Value.ref sb), (1, Value.ref h0), (2, Value.ref m0), (3, Value.int i)] → W p l e room_1 s m #[Value.ref sb] below meth c H locs (cells + 3) (slots + 464) Q (F0 m 1456 ls [])) {kx : Nat → Int32} {lx : Int32} {tx : Nat → Int32} {zw : Nat → Int} {zU : UL} {zl : Nat → List Cls} {zWI : Nat → Nat → Int} {zLI : Nat → Nat → List Cls} {zft : Int} {zsp : Int} {zmd : Int} {zla : Int} {zrf : Nat → Int32} {zD : ODr} {wx wm : va_W} {H : Heap} {locs : List Loc} {ls : Array Slot} (hCX : CX cs h0 kx lx tx zw zU zl zWI zLI zft zsp zmd zla zrf zD wx) (hCM : CM cs m0 kx lx tx zw zU zl zWI zLI zft zsp zmd zla zrf zD wm) (hP : va_P G vwCl (wx ++ wm) H) (hD : va_D A (wx ++ wm)) (hS : va_S A s.heap H locs) (hl : lv_has ls 4 [(0, Value.ref sb), (1, Value.ref h0), (2, Value.ref m0), (3, Value.int i)]) : W p l e room_1 s m #[Value.ref sb] below meth c H locs cells slots Q (F0 m 574 ls []) := by
  obtain ⟨hx, hb, hr, hml, hown, hts, hX, hbl, hlocks, hgv⟩ := id C0
  have hb : c.code = cL_law := hb
  have hown : s.vm.findClass RL = some m.cls := hown
  have htl := gW_l hts
  have hf : cells ≤ 590000 ∧ slots ≤ 7300000 := (by first | with_reducible assumption | exact ⟨by omega, by omega⟩)
  refine lv_aload_n hx hb dL_law_574 rfl (lv_at hl 1 rfl) ?_
  refine cx_row l C0 hA hN hK hxe hZ  hCX hP hD hS hl.1 hf (fun r wx H locs hans hCX hP hD hS => ?_)
  refine lv_pop hx hb dL_law_578 rfl ?_
  refine lv_aload_n hx hb dL_law_579 rfl (lv_at hl 2 rfl) ?_
  refine cm_row l C0 hA hN hK (Nat.le_of_ble_eq_true rfl)  hCM (P_perm List.perm_append_comm hP) (D_perm List.perm_append_comm hD) hS hl.1 hf (fun r2 wm H locs hans2 hCM hP hD hS => ?_)
  replace hP := P_perm List.perm_append_comm hP
  replace hD := D_perm List.perm_append_comm hD
  refine lv_pop hx hb dL_law_583 rfl ?_
  refine lv_goto (tgt := 1456) hx hb dL_law_584 (by decide) ?_
  refine W.widen (k := cells + 3) (n := slots + 464) (by omega) (by omega) ?_
  exact K _ _ _ _ _ _ _ _ _ _ _ _ _ _ wx wm _ _ ls hCX hCM hP hD hS hl

set_option maxHeartbeats 1000000 in
set_option maxRecDepth 100000 in
theorem lw_c_mud {p : Program} {e : Env} {s : State} {m : MethodId} {below : List Frame} {meth : Method} {c : Code} (l : Launch) {sb L : Nat} {xs : Nat → Int32} {A : Nat → Prop} (C0 : lw_At p s m meth c sb L xs) (hL : L ≤ 3072) (hA : ∀ q, s.heap.size ≤ q → A q) (hbA : ¬ A sb) {G : va_G} {cs : Nat → ClassId} {xe : XE} (hN : NW s) (hK : va_K G vwCl (tyL cs) s) (hxe : isRf xe.2.2) (hZ : XZ xe A s) {Q : State → Prop} {h0 m0 : Nat} {cells slots : Nat} (hf : cells ≤ 580000 ∧ slots ≤ 7290000) {i : Int32} (hi0 : 0 ≤ i.toInt) (hi1 : i.toInt + 6 ≤ (L : Int)) (K : ∀ (kx : Nat → Int32) (lx : Int32) (tx : Nat → Int32) (zw : Nat → Int) (zU : UL) (zl : Nat → List Cls) (zWI : Nat → Nat → Int) (zLI : Nat → Nat → List Cls) (zft : Int) (zsp : Int) (zmd : Int) (zla : Int) (zrf : Nat → Int32) (zD : ODr) (wx wm : va_W) (H : Heap) (locs : List Loc) (ls : Array Slot), CX cs h0 kx lx tx zw zU zl zWI zLI zft zsp zmd zla zrf zD wx → CM cs m0 kx lx tx zw zU zl zWI zLI zft zsp zmd zla zrf zD wm → va_P G vwCl (wx ++ wm) H → va_D A (wx ++ wm) → va_S A s.heap H locs → lv_has ls 4 [(0, Value.ref sb), (1, Value.ref h0), (2, Value.ref m0), (3, Value.int i)] → W p l e room_1 s m #[Value.ref sb] below meth c H locs (cells + 3) (slots + 464) Q (F0 m 1456 ls [])) {kx : Nat → Int32} {lx : Int32} {tx : Nat → Int32} {zw : Nat → Int} {zU : UL} {zl : Nat → List Cls} {zWI : Nat → Nat → Int} {zLI : Nat → Nat → List Cls} {zft : Int} {zsp : Int} {zmd : Int} {zla : Int} {zrf : Nat → Int32} {zD : ODr} {wx wm : va_W} {H : Heap} {locs : List Loc} {ls : Array Slot} (hCX : CX cs h0 kx lx tx zw zU zl zWI zLI zft zsp zmd zla zrf zD wx) (hCM : CM cs m0 kx lx tx zw zU zl zWI zLI zft zsp zmd zla zrf zD wm) (hP : va_P G vwCl (wx ++ wm) H) (hD : va_D A (wx ++ wm)) (hS : va_S A s.heap H locs) (hl : lv_has ls 4 [(0, Value.ref sb), (1, Value.ref h0), (2, Value.ref m0), (3, Value.int i)]) : W p l e room_1 s m #[Value.ref sb] below meth c H locs cells slots Q (F0 m 587 ls []) := by
  obtain ⟨hx, hb, hr, hml, hown, hts, hX, hbl, hlocks, hgv⟩ := id C0
  have hb : c.code = cL_law := hb
  have hown : s.vm.findClass RL = some m.cls := hown
  have htl := gW_l hts
  have hf : cells ≤ 590000 ∧ slots ≤ 7300000 := (by first | with_reducible assumption | exact ⟨by omega, by omega⟩)
  refine lv_aload_n hx hb dL_law_587 rfl (lv_at hl 1 rfl) ?_
  refine cx_mud l C0 hA hN hK hxe hZ  hCX hP hD hS hl.1 hf (fun r wx H locs hans hCX hP hD hS => ?_)
  refine lv_pop hx hb dL_law_591 rfl ?_
  refine lv_aload_n hx hb dL_law_592 rfl (lv_at hl 2 rfl) ?_
  refine cm_mud l C0 hA hN hK (Nat.le_of_ble_eq_true rfl)  hCM (P_perm List.perm_append_comm hP) (D_perm List.perm_append_comm hD) hS hl.1 hf (fun r2 wm H locs hans2 hCM hP hD hS => ?_)
  replace hP := P_perm List.perm_append_comm hP
  replace hD := D_perm List.perm_append_comm hD
  refine lv_pop hx hb dL_law_596 rfl ?_
  refine lv_goto (tgt := 1456) hx hb dL_law_597 (by decide) ?_
  refine W.widen (k := cells + 3) (n := slots + 464) (by omega) (by omega) ?_
  exact K _ _ _ _ _ _ _ _ _ _ _ _ _ _ wx wm _ _ ls hCX hCM hP hD hS hl

set_option maxHeartbeats 1000000 in
set_option maxRecDepth 100000 in
theorem lw_c_law {p : Program} {e : Env} {s : State} {m : MethodId} {below : List Frame} {meth : Method} {c : Code} (l : Launch) {sb L : Nat} {xs : Nat → Int32} {A : Nat → Prop} (C0 : lw_At p s m meth c sb L xs) (hL : L ≤ 3072) (hA : ∀ q, s.heap.size ≤ q → A q) (hbA : ¬ A sb) {G : va_G} {cs : Nat → ClassId} {xe : XE} (hN : NW s) (hK : va_K G vwCl (tyL cs) s) (hxe : isRf xe.2.2) (hZ : XZ xe A s) {Q : State → Prop} {h0 m0 : Nat} {cells slots : Nat} (hf : cells ≤ 580000 ∧ slots ≤ 7290000) {i : Int32} (hi0 : 0 ≤ i.toInt) (hi1 : i.toInt + 6 ≤ (L : Int)) (K : ∀ (kx : Nat → Int32) (lx : Int32) (tx : Nat → Int32) (zw : Nat → Int) (zU : UL) (zl : Nat → List Cls) (zWI : Nat → Nat → Int) (zLI : Nat → Nat → List Cls) (zft : Int) (zsp : Int) (zmd : Int) (zla : Int) (zrf : Nat → Int32) (zD : ODr) (wx wm : va_W) (H : Heap) (locs : List Loc) (ls : Array Slot), CX cs h0 kx lx tx zw zU zl zWI zLI zft zsp zmd zla zrf zD wx → CM cs m0 kx lx tx zw zU zl zWI zLI zft zsp zmd zla zrf zD wm → va_P G vwCl (wx ++ wm) H → va_D A (wx ++ wm) → va_S A s.heap H locs → lv_has ls 4 [(0, Value.ref sb), (1, Value.ref h0), (2, Value.ref m0), (3, Value.int i)] → W p l e room_1 s m #[Value.ref sb] below meth c H locs (cells + 3) (slots + 464) Q (F0 m 1456 ls [])) {kx : Nat → Int32} {lx : Int32} {tx : Nat → Int32} {zw : Nat → Int} {zU : UL} {zl : Nat → List Cls} {zWI : Nat → Nat → Int} {zLI : Nat → Nat → List Cls} {zft : Int} {zsp : Int} {zmd : Int} {zla : Int} {zrf : Nat → Int32} {zD : ODr} {wx wm : va_W} {H : Heap} {locs : List Loc} {ls : Array Slot} (hCX : CX cs h0 kx lx tx zw zU zl zWI zLI zft zsp zmd zla zrf zD wx) (hCM : CM cs m0 kx lx tx zw zU zl zWI zLI zft zsp zmd zla zrf zD wm) (hP : va_P G vwCl (wx ++ wm) H) (hD : va_D A (wx ++ wm)) (hS : va_S A s.heap H locs) (hl : lv_has ls 4 [(0, Value.ref sb), (1, Value.ref h0), (2, Value.ref m0), (3, Value.int i)]) : W p l e room_1 s m #[Value.ref sb] below meth c H locs cells slots Q (F0 m 600 ls []) := by
  obtain ⟨hx, hb, hr, hml, hown, hts, hX, hbl, hlocks, hgv⟩ := id C0
  have hb : c.code = cL_law := hb
  have hown : s.vm.findClass RL = some m.cls := hown
  have htl := gW_l hts
  have hf : cells ≤ 590000 ∧ slots ≤ 7300000 := (by first | with_reducible assumption | exact ⟨by omega, by omega⟩)
  refine lv_aload_n hx hb dL_law_600 rfl (lv_at hl 1 rfl) ?_
  have hlen := CX_len hCX
  obtain ⟨n, hn⟩ : ∃ n : Nat, lx.toInt = (n : Int) := ⟨lx.toInt.toNat, by omega⟩
  obtain ⟨st, en, T, hlex⟩ := Lex.ex tx n (fun r hr => CX_by hCX r (by omega))
  refine cx_law l C0 hA hN hK hxe hZ  hlex hn hCX hP hD hS hl.1 hf (fun r wx H locs hans hCX hP hD hS => ?_)
  refine lv_pop hx hb dL_law_604 rfl ?_
  refine lv_aload_n hx hb dL_law_605 rfl (lv_at hl 2 rfl) ?_
  refine cm_law l C0 hA hN hK (Nat.le_of_ble_eq_true rfl)  hlex hn hCM (P_perm List.perm_append_comm hP) (D_perm List.perm_append_comm hD) hS hl.1 ((by first | with_reducible assumption | exact ⟨by omega, by omega⟩)) (fun r2 wm H locs hans2 hCM hP hD hS => ?_)
  replace hP := P_perm List.perm_append_comm hP
  replace hD := D_perm List.perm_append_comm hD
  refine lv_pop hx hb dL_law_609 rfl ?_
  refine lv_goto (tgt := 1456) hx hb dL_law_610 (by decide) ?_
  exact K _ _ _ _ _ _ _ _ _ _ _ _ _ _ wx wm _ _ ls hCX hCM hP hD hS hl

set_option maxHeartbeats 1000000 in
set_option maxRecDepth 100000 in
theorem lw_c_orders {p : Program} {e : Env} {s : State} {m : MethodId} {below : List Frame} {meth : Method} {c : Code} (l : Launch) {sb L : Nat} {xs : Nat → Int32} {A : Nat → Prop} (C0 : lw_At p s m meth c sb L xs) (hL : L ≤ 3072) (hA : ∀ q, s.heap.size ≤ q → A q) (hbA : ¬ A sb) {G : va_G} {cs : Nat → ClassId} {xe : XE} (hN : NW s) (hK : va_K G vwCl (tyL cs) s) (hxe : isRf xe.2.2) (hZ : XZ xe A s) {Q : State → Prop} {h0 m0 : Nat} {cells slots : Nat} (hf : cells ≤ 580000 ∧ slots ≤ 7290000) {i : Int32} (hi0 : 0 ≤ i.toInt) (hi1 : i.toInt + 6 ≤ (L : Int)) (K : ∀ (kx : Nat → Int32) (lx : Int32) (tx : Nat → Int32) (zw : Nat → Int) (zU : UL) (zl : Nat → List Cls) (zWI : Nat → Nat → Int) (zLI : Nat → Nat → List Cls) (zft : Int) (zsp : Int) (zmd : Int) (zla : Int) (zrf : Nat → Int32) (zD : ODr) (wx wm : va_W) (H : Heap) (locs : List Loc) (ls : Array Slot), CX cs h0 kx lx tx zw zU zl zWI zLI zft zsp zmd zla zrf zD wx → CM cs m0 kx lx tx zw zU zl zWI zLI zft zsp zmd zla zrf zD wm → va_P G vwCl (wx ++ wm) H → va_D A (wx ++ wm) → va_S A s.heap H locs → lv_has ls 4 [(0, Value.ref sb), (1, Value.ref h0), (2, Value.ref m0), (3, Value.int i)] → W p l e room_1 s m #[Value.ref sb] below meth c H locs (cells + 3) (slots + 464) Q (F0 m 1456 ls [])) {kx : Nat → Int32} {lx : Int32} {tx : Nat → Int32} {zw : Nat → Int} {zU : UL} {zl : Nat → List Cls} {zWI : Nat → Nat → Int} {zLI : Nat → Nat → List Cls} {zft : Int} {zsp : Int} {zmd : Int} {zla : Int} {zrf : Nat → Int32} {zD : ODr} {wx wm : va_W} {H : Heap} {locs : List Loc} {ls : Array Slot} (hCX : CX cs h0 kx lx tx zw zU zl zWI zLI zft zsp zmd zla zrf zD wx) (hCM : CM cs m0 kx lx tx zw zU zl zWI zLI zft zsp zmd zla zrf zD wm) (hP : va_P G vwCl (wx ++ wm) H) (hD : va_D A (wx ++ wm)) (hS : va_S A s.heap H locs) (hl : lv_has ls 4 [(0, Value.ref sb), (1, Value.ref h0), (2, Value.ref m0), (3, Value.int i)]) : W p l e room_1 s m #[Value.ref sb] below meth c H locs cells slots Q (F0 m 613 ls []) := by
  obtain ⟨hx, hb, hr, hml, hown, hts, hX, hbl, hlocks, hgv⟩ := id C0
  have hb : c.code = cL_law := hb
  have hown : s.vm.findClass RL = some m.cls := hown
  have htl := gW_l hts
  have hf : cells ≤ 590000 ∧ slots ≤ 7300000 := (by first | with_reducible assumption | exact ⟨by omega, by omega⟩)
  refine lv_aload_n hx hb dL_law_613 rfl (lv_at hl 1 rfl) ?_
  have hlen := CX_len hCX
  obtain ⟨n, hn⟩ : ∃ n : Nat, lx.toInt = (n : Int) := ⟨lx.toInt.toNat, by omega⟩
  obtain ⟨st, en, T, hlex⟩ := Lex.ex tx n (fun r hr => CX_by hCX r (by omega))
  refine cx_orders l C0 hA hN hK hxe hZ  hlex hn hCX hP hD hS hl.1 hf (fun r wx H locs hans hCX hP hD hS => ?_)
  refine lv_pop hx hb dL_law_617 rfl ?_
  refine lv_aload_n hx hb dL_law_618 rfl (lv_at hl 2 rfl) ?_
  refine cm_orders l C0 hA hN hK (Nat.le_of_ble_eq_true rfl)  hlex hn hCM (P_perm List.perm_append_comm hP) (D_perm List.perm_append_comm hD) hS hl.1 hf (fun r2 wm H locs hans2 hCM hP hD hS => ?_)
  replace hP := P_perm List.perm_append_comm hP
  replace hD := D_perm List.perm_append_comm hD
  refine lv_pop hx hb dL_law_622 rfl ?_
  refine lv_goto (tgt := 1456) hx hb dL_law_623 (by decide) ?_
  refine W.widen (k := cells + 3) (n := slots + 464) (by omega) (by omega) ?_
  exact K _ _ _ _ _ _ _ _ _ _ _ _ _ _ wx wm _ _ ls hCX hCM hP hD hS hl

set_option maxHeartbeats 1000000 in
set_option maxRecDepth 100000 in
theorem lw_c_fault {p : Program} {e : Env} {s : State} {m : MethodId} {below : List Frame} {meth : Method} {c : Code} (l : Launch) {sb L : Nat} {xs : Nat → Int32} {A : Nat → Prop} (C0 : lw_At p s m meth c sb L xs) (hL : L ≤ 3072) (hA : ∀ q, s.heap.size ≤ q → A q) (hbA : ¬ A sb) {G : va_G} {cs : Nat → ClassId} {xe : XE} (hN : NW s) (hK : va_K G vwCl (tyL cs) s) (hxe : isRf xe.2.2) (hZ : XZ xe A s) {Q : State → Prop} {h0 m0 : Nat} {cells slots : Nat} (hf : cells ≤ 580000 ∧ slots ≤ 7290000) {i : Int32} (hi0 : 0 ≤ i.toInt) (hi1 : i.toInt + 6 ≤ (L : Int)) (K : ∀ (kx : Nat → Int32) (lx : Int32) (tx : Nat → Int32) (zw : Nat → Int) (zU : UL) (zl : Nat → List Cls) (zWI : Nat → Nat → Int) (zLI : Nat → Nat → List Cls) (zft : Int) (zsp : Int) (zmd : Int) (zla : Int) (zrf : Nat → Int32) (zD : ODr) (wx wm : va_W) (H : Heap) (locs : List Loc) (ls : Array Slot), CX cs h0 kx lx tx zw zU zl zWI zLI zft zsp zmd zla zrf zD wx → CM cs m0 kx lx tx zw zU zl zWI zLI zft zsp zmd zla zrf zD wm → va_P G vwCl (wx ++ wm) H → va_D A (wx ++ wm) → va_S A s.heap H locs → lv_has ls 4 [(0, Value.ref sb), (1, Value.ref h0), (2, Value.ref m0), (3, Value.int i)] → W p l e room_1 s m #[Value.ref sb] below meth c H locs (cells + 3) (slots + 464) Q (F0 m 1456 ls [])) {kx : Nat → Int32} {lx : Int32} {tx : Nat → Int32} {zw : Nat → Int} {zU : UL} {zl : Nat → List Cls} {zWI : Nat → Nat → Int} {zLI : Nat → Nat → List Cls} {zft : Int} {zsp : Int} {zmd : Int} {zla : Int} {zrf : Nat → Int32} {zD : ODr} {wx wm : va_W} {H : Heap} {locs : List Loc} {ls : Array Slot} (hCX : CX cs h0 kx lx tx zw zU zl zWI zLI zft zsp zmd zla zrf zD wx) (hCM : CM cs m0 kx lx tx zw zU zl zWI zLI zft zsp zmd zla zrf zD wm) (hP : va_P G vwCl (wx ++ wm) H) (hD : va_D A (wx ++ wm)) (hS : va_S A s.heap H locs) (hl : lv_has ls 4 [(0, Value.ref sb), (1, Value.ref h0), (2, Value.ref m0), (3, Value.int i)]) : W p l e room_1 s m #[Value.ref sb] below meth c H locs cells slots Q (F0 m 626 ls []) := by
  obtain ⟨hx, hb, hr, hml, hown, hts, hX, hbl, hlocks, hgv⟩ := id C0
  have hb : c.code = cL_law := hb
  have hown : s.vm.findClass RL = some m.cls := hown
  have htl := gW_l hts
  have hf : cells ≤ 590000 ∧ slots ≤ 7300000 := (by first | with_reducible assumption | exact ⟨by omega, by omega⟩)
  refine lv_aload_n hx hb dL_law_626 rfl (lv_at hl 1 rfl) ?_
  refine cx_fault l C0 hA hN hK hxe hZ  hCX hP hD hS hl.1 hf (fun r wx H locs hans hCX hP hD hS => ?_)
  refine lv_pop hx hb dL_law_630 rfl ?_
  refine lv_aload_n hx hb dL_law_631 rfl (lv_at hl 2 rfl) ?_
  refine cm_fault l C0 hA hN hK (Nat.le_of_ble_eq_true rfl)  hCM (P_perm List.perm_append_comm hP) (D_perm List.perm_append_comm hD) hS hl.1 hf (fun r2 wm H locs hans2 hCM hP hD hS => ?_)
  replace hP := P_perm List.perm_append_comm hP
  replace hD := D_perm List.perm_append_comm hD
  refine lv_pop hx hb dL_law_635 rfl ?_
  refine lv_goto (tgt := 1456) hx hb dL_law_636 (by decide) ?_
  refine W.widen (k := cells + 3) (n := slots + 464) (by omega) (by omega) ?_
  exact K _ _ _ _ _ _ _ _ _ _ _ _ _ _ wx wm _ _ ls hCX hCM hP hD hS hl

set_option maxHeartbeats 1000000 in
set_option maxRecDepth 100000 in
theorem lw_c_stopped {p : Program} {e : Env} {s : State} {m : MethodId} {below : List Frame} {meth : Method} {c : Code} (l : Launch) {sb L : Nat} {xs : Nat → Int32} {A : Nat → Prop} (C0 : lw_At p s m meth c sb L xs) (hL : L ≤ 3072) (hA : ∀ q, s.heap.size ≤ q → A q) (hbA : ¬ A sb) {G : va_G} {cs : Nat → ClassId} {xe : XE} (hN : NW s) (hK : va_K G vwCl (tyL cs) s) (hxe : isRf xe.2.2) (hZ : XZ xe A s) {Q : State → Prop} {h0 m0 : Nat} {cells slots : Nat} (hf : cells ≤ 580000 ∧ slots ≤ 7290000) {i : Int32} (hi0 : 0 ≤ i.toInt) (hi1 : i.toInt + 6 ≤ (L : Int)) (K : ∀ (kx : Nat → Int32) (lx : Int32) (tx : Nat → Int32) (zw : Nat → Int) (zU : UL) (zl : Nat → List Cls) (zWI : Nat → Nat → Int) (zLI : Nat → Nat → List Cls) (zft : Int) (zsp : Int) (zmd : Int) (zla : Int) (zrf : Nat → Int32) (zD : ODr) (wx wm : va_W) (H : Heap) (locs : List Loc) (ls : Array Slot), CX cs h0 kx lx tx zw zU zl zWI zLI zft zsp zmd zla zrf zD wx → CM cs m0 kx lx tx zw zU zl zWI zLI zft zsp zmd zla zrf zD wm → va_P G vwCl (wx ++ wm) H → va_D A (wx ++ wm) → va_S A s.heap H locs → lv_has ls 4 [(0, Value.ref sb), (1, Value.ref h0), (2, Value.ref m0), (3, Value.int i)] → W p l e room_1 s m #[Value.ref sb] below meth c H locs (cells + 3) (slots + 464) Q (F0 m 1456 ls [])) {kx : Nat → Int32} {lx : Int32} {tx : Nat → Int32} {zw : Nat → Int} {zU : UL} {zl : Nat → List Cls} {zWI : Nat → Nat → Int} {zLI : Nat → Nat → List Cls} {zft : Int} {zsp : Int} {zmd : Int} {zla : Int} {zrf : Nat → Int32} {zD : ODr} {wx wm : va_W} {H : Heap} {locs : List Loc} {ls : Array Slot} (hCX : CX cs h0 kx lx tx zw zU zl zWI zLI zft zsp zmd zla zrf zD wx) (hCM : CM cs m0 kx lx tx zw zU zl zWI zLI zft zsp zmd zla zrf zD wm) (hP : va_P G vwCl (wx ++ wm) H) (hD : va_D A (wx ++ wm)) (hS : va_S A s.heap H locs) (hl : lv_has ls 4 [(0, Value.ref sb), (1, Value.ref h0), (2, Value.ref m0), (3, Value.int i)]) : W p l e room_1 s m #[Value.ref sb] below meth c H locs cells slots Q (F0 m 639 ls []) := by
  obtain ⟨hx, hb, hr, hml, hown, hts, hX, hbl, hlocks, hgv⟩ := id C0
  have hb : c.code = cL_law := hb
  have hown : s.vm.findClass RL = some m.cls := hown
  have htl := gW_l hts
  have hf : cells ≤ 590000 ∧ slots ≤ 7300000 := (by first | with_reducible assumption | exact ⟨by omega, by omega⟩)
  refine lv_aload_n hx hb dL_law_639 rfl (lv_at hl 1 rfl) ?_
  refine cx_stopped l C0 hA hN hK hxe hZ  hCX hP hD hS hl.1 hf (fun r wx H locs hans hCX hP hD hS => ?_)
  refine lv_pop hx hb dL_law_643 rfl ?_
  refine lv_aload_n hx hb dL_law_644 rfl (lv_at hl 2 rfl) ?_
  refine cm_stopped l C0 hA hN hK (Nat.le_of_ble_eq_true rfl)  hCM (P_perm List.perm_append_comm hP) (D_perm List.perm_append_comm hD) hS hl.1 hf (fun r2 wm H locs hans2 hCM hP hD hS => ?_)
  replace hP := P_perm List.perm_append_comm hP
  replace hD := D_perm List.perm_append_comm hD
  refine lv_pop hx hb dL_law_648 rfl ?_
  refine lv_goto (tgt := 1456) hx hb dL_law_649 (by decide) ?_
  refine W.widen (k := cells + 3) (n := slots + 464) (by omega) (by omega) ?_
  exact K _ _ _ _ _ _ _ _ _ _ _ _ _ _ wx wm _ _ ls hCX hCM hP hD hS hl

set_option maxHeartbeats 1000000 in
set_option maxRecDepth 100000 in
theorem lw_c_force {p : Program} {e : Env} {s : State} {m : MethodId} {below : List Frame} {meth : Method} {c : Code} (l : Launch) {sb L : Nat} {xs : Nat → Int32} {A : Nat → Prop} (C0 : lw_At p s m meth c sb L xs) (hL : L ≤ 3072) (hA : ∀ q, s.heap.size ≤ q → A q) (hbA : ¬ A sb) {G : va_G} {cs : Nat → ClassId} {xe : XE} (hN : NW s) (hK : va_K G vwCl (tyL cs) s) (hxe : isRf xe.2.2) (hZ : XZ xe A s) {Q : State → Prop} {h0 m0 : Nat} {cells slots : Nat} (hf : cells ≤ 580000 ∧ slots ≤ 7290000) {i : Int32} (hi0 : 0 ≤ i.toInt) (hi1 : i.toInt + 6 ≤ (L : Int)) (K : ∀ (kx : Nat → Int32) (lx : Int32) (tx : Nat → Int32) (zw : Nat → Int) (zU : UL) (zl : Nat → List Cls) (zWI : Nat → Nat → Int) (zLI : Nat → Nat → List Cls) (zft : Int) (zsp : Int) (zmd : Int) (zla : Int) (zrf : Nat → Int32) (zD : ODr) (wx wm : va_W) (H : Heap) (locs : List Loc) (ls : Array Slot), CX cs h0 kx lx tx zw zU zl zWI zLI zft zsp zmd zla zrf zD wx → CM cs m0 kx lx tx zw zU zl zWI zLI zft zsp zmd zla zrf zD wm → va_P G vwCl (wx ++ wm) H → va_D A (wx ++ wm) → va_S A s.heap H locs → lv_has ls 4 [(0, Value.ref sb), (1, Value.ref h0), (2, Value.ref m0), (3, Value.int i)] → W p l e room_1 s m #[Value.ref sb] below meth c H locs (cells + 3) (slots + 464) Q (F0 m 1456 ls [])) {kx : Nat → Int32} {lx : Int32} {tx : Nat → Int32} {zw : Nat → Int} {zU : UL} {zl : Nat → List Cls} {zWI : Nat → Nat → Int} {zLI : Nat → Nat → List Cls} {zft : Int} {zsp : Int} {zmd : Int} {zla : Int} {zrf : Nat → Int32} {zD : ODr} {wx wm : va_W} {H : Heap} {locs : List Loc} {ls : Array Slot} (hCX : CX cs h0 kx lx tx zw zU zl zWI zLI zft zsp zmd zla zrf zD wx) (hCM : CM cs m0 kx lx tx zw zU zl zWI zLI zft zsp zmd zla zrf zD wm) (hP : va_P G vwCl (wx ++ wm) H) (hD : va_D A (wx ++ wm)) (hS : va_S A s.heap H locs) (hl : lv_has ls 4 [(0, Value.ref sb), (1, Value.ref h0), (2, Value.ref m0), (3, Value.int i)]) : W p l e room_1 s m #[Value.ref sb] below meth c H locs cells slots Q (F0 m 652 ls []) := by
  obtain ⟨hx, hb, hr, hml, hown, hts, hX, hbl, hlocks, hgv⟩ := id C0
  have hb : c.code = cL_law := hb
  have hown : s.vm.findClass RL = some m.cls := hown
  have htl := gW_l hts
  have hf : cells ≤ 590000 ∧ slots ≤ 7300000 := (by first | with_reducible assumption | exact ⟨by omega, by omega⟩)
  refine lv_aload_n hx hb dL_law_652 rfl (lv_at hl 1 rfl) ?_
  refine lv_aload_n hx hb dL_law_653 rfl (lv_at hl 0 rfl) ?_
  refine lv_iload_n hx hb dL_law_654 rfl (lv_at hl 3 rfl) ?_
  refine lv_iconst (v := 1) hx hb dL_law_655 (by decide) ?_
  refine lv_iadd hx hb dL_law_656 ?_
  refine lv_topi (fun ix0 ex0 => ?_)
  refine va_sld hx hb hX hbl hbA hS (ix_in hi0 hi1 hL ex0 (by decide) (by decide)) dL_law_657 ?_
  refine lv_topi (fun a0 ea0 => ?_)
  refine cx_force l C0 hA hN hK hxe hZ a0 hCX hP hD hS hl.1 hf (fun r wx H locs hans hCX hP hD hS => ?_)
  refine lv_pop hx hb dL_law_661 rfl ?_
  refine lv_aload_n hx hb dL_law_662 rfl (lv_at hl 2 rfl) ?_
  refine lv_aload_n hx hb dL_law_663 rfl (lv_at hl 0 rfl) ?_
  refine lv_iload_n hx hb dL_law_664 rfl (lv_at hl 3 rfl) ?_
  refine lv_iconst (v := 1) hx hb dL_law_665 (by decide) ?_
  refine lv_iadd hx hb dL_law_666 ?_
  refine lv_topi (fun ix1 ex1 => ?_)
  refine va_sld hx hb hX hbl hbA hS (ix_in hi0 hi1 hL ex1 (by decide) (by decide)) dL_law_667 ?_
  refine lv_topi (fun a1 ea1 => ?_)
  have e_a1 : a1 = a0 := ea1.trans (by rw [ex1, ← ex0]; exact ea0.symm)
  rw [e_a1]
  refine cm_force l C0 hA hN hK (Nat.le_of_ble_eq_true rfl) a0 hCM (P_perm List.perm_append_comm hP) (D_perm List.perm_append_comm hD) hS hl.1 hf (fun r2 wm H locs hans2 hCM hP hD hS => ?_)
  replace hP := P_perm List.perm_append_comm hP
  replace hD := D_perm List.perm_append_comm hD
  refine lv_pop hx hb dL_law_671 rfl ?_
  refine lv_goto (tgt := 1456) hx hb dL_law_672 (by decide) ?_
  refine W.widen (k := cells + 3) (n := slots + 464) (by omega) (by omega) ?_
  exact K _ _ _ _ _ _ _ _ _ _ _ _ _ _ wx wm _ _ ls hCX hCM hP hD hS hl

set_option maxHeartbeats 1000000 in
set_option maxRecDepth 100000 in
theorem lw_c_asks {p : Program} {e : Env} {s : State} {m : MethodId} {below : List Frame} {meth : Method} {c : Code} (l : Launch) {sb L : Nat} {xs : Nat → Int32} {A : Nat → Prop} (C0 : lw_At p s m meth c sb L xs) (hL : L ≤ 3072) (hA : ∀ q, s.heap.size ≤ q → A q) (hbA : ¬ A sb) {G : va_G} {cs : Nat → ClassId} {xe : XE} (hN : NW s) (hK : va_K G vwCl (tyL cs) s) (hxe : isRf xe.2.2) (hZ : XZ xe A s) {Q : State → Prop} {h0 m0 : Nat} {cells slots : Nat} (hf : cells ≤ 580000 ∧ slots ≤ 7290000) {i : Int32} (hi0 : 0 ≤ i.toInt) (hi1 : i.toInt + 6 ≤ (L : Int)) (K : ∀ (kx : Nat → Int32) (lx : Int32) (tx : Nat → Int32) (zw : Nat → Int) (zU : UL) (zl : Nat → List Cls) (zWI : Nat → Nat → Int) (zLI : Nat → Nat → List Cls) (zft : Int) (zsp : Int) (zmd : Int) (zla : Int) (zrf : Nat → Int32) (zD : ODr) (wx wm : va_W) (H : Heap) (locs : List Loc) (ls : Array Slot), CX cs h0 kx lx tx zw zU zl zWI zLI zft zsp zmd zla zrf zD wx → CM cs m0 kx lx tx zw zU zl zWI zLI zft zsp zmd zla zrf zD wm → va_P G vwCl (wx ++ wm) H → va_D A (wx ++ wm) → va_S A s.heap H locs → lv_has ls 4 [(0, Value.ref sb), (1, Value.ref h0), (2, Value.ref m0), (3, Value.int i)] → W p l e room_1 s m #[Value.ref sb] below meth c H locs (cells + 3) (slots + 464) Q (F0 m 1456 ls [])) {kx : Nat → Int32} {lx : Int32} {tx : Nat → Int32} {zw : Nat → Int} {zU : UL} {zl : Nat → List Cls} {zWI : Nat → Nat → Int} {zLI : Nat → Nat → List Cls} {zft : Int} {zsp : Int} {zmd : Int} {zla : Int} {zrf : Nat → Int32} {zD : ODr} {wx wm : va_W} {H : Heap} {locs : List Loc} {ls : Array Slot} (hCX : CX cs h0 kx lx tx zw zU zl zWI zLI zft zsp zmd zla zrf zD wx) (hCM : CM cs m0 kx lx tx zw zU zl zWI zLI zft zsp zmd zla zrf zD wm) (hP : va_P G vwCl (wx ++ wm) H) (hD : va_D A (wx ++ wm)) (hS : va_S A s.heap H locs) (hl : lv_has ls 4 [(0, Value.ref sb), (1, Value.ref h0), (2, Value.ref m0), (3, Value.int i)]) : W p l e room_1 s m #[Value.ref sb] below meth c H locs cells slots Q (F0 m 675 ls []) := by
  obtain ⟨hx, hb, hr, hml, hown, hts, hX, hbl, hlocks, hgv⟩ := id C0
  have hb : c.code = cL_law := hb
  have hown : s.vm.findClass RL = some m.cls := hown
  have htl := gW_l hts
  have hf : cells ≤ 590000 ∧ slots ≤ 7300000 := (by first | with_reducible assumption | exact ⟨by omega, by omega⟩)
  refine lv_aload_n hx hb dL_law_675 rfl (lv_at hl 1 rfl) ?_
  refine lv_aload_n hx hb dL_law_676 rfl (lv_at hl 0 rfl) ?_
  refine lv_iload_n hx hb dL_law_677 rfl (lv_at hl 3 rfl) ?_
  refine lv_iconst (v := 1) hx hb dL_law_678 (by decide) ?_
  refine lv_iadd hx hb dL_law_679 ?_
  refine lv_topi (fun ix0 ex0 => ?_)
  refine va_sld hx hb hX hbl hbA hS (ix_in hi0 hi1 hL ex0 (by decide) (by decide)) dL_law_680 ?_
  refine lv_topi (fun a0 ea0 => ?_)
  refine lv_aload_n hx hb dL_law_681 rfl (lv_at hl 0 rfl) ?_
  refine lv_iload_n hx hb dL_law_682 rfl (lv_at hl 3 rfl) ?_
  refine lv_iconst (v := 2) hx hb dL_law_683 (by decide) ?_
  refine lv_iadd hx hb dL_law_684 ?_
  refine lv_topi (fun ix1 ex1 => ?_)
  refine va_sld hx hb hX hbl hbA hS (ix_in hi0 hi1 hL ex1 (by decide) (by decide)) dL_law_685 ?_
  refine lv_topi (fun a1 ea1 => ?_)
  refine lv_aload_n hx hb dL_law_686 rfl (lv_at hl 0 rfl) ?_
  refine lv_iload_n hx hb dL_law_687 rfl (lv_at hl 3 rfl) ?_
  refine lv_iconst (v := 3) hx hb dL_law_688 (by decide) ?_
  refine lv_iadd hx hb dL_law_689 ?_
  refine lv_topi (fun ix2 ex2 => ?_)
  refine va_sld hx hb hX hbl hbA hS (ix_in hi0 hi1 hL ex2 (by decide) (by decide)) dL_law_690 ?_
  refine lv_topi (fun a2 ea2 => ?_)
  refine cx_asks l C0 hA hN hK hxe hZ a0 a1 a2 hCX hP hD hS hl.1 hf (fun r wx H locs hans hCX hP hD hS => ?_)
  refine lv_pop hx hb dL_law_694 rfl ?_
  refine lv_aload_n hx hb dL_law_695 rfl (lv_at hl 2 rfl) ?_
  refine lv_aload_n hx hb dL_law_696 rfl (lv_at hl 0 rfl) ?_
  refine lv_iload_n hx hb dL_law_697 rfl (lv_at hl 3 rfl) ?_
  refine lv_iconst (v := 1) hx hb dL_law_698 (by decide) ?_
  refine lv_iadd hx hb dL_law_699 ?_
  refine lv_topi (fun ix3 ex3 => ?_)
  refine va_sld hx hb hX hbl hbA hS (ix_in hi0 hi1 hL ex3 (by decide) (by decide)) dL_law_700 ?_
  refine lv_topi (fun a3 ea3 => ?_)
  refine lv_aload_n hx hb dL_law_701 rfl (lv_at hl 0 rfl) ?_
  refine lv_iload_n hx hb dL_law_702 rfl (lv_at hl 3 rfl) ?_
  refine lv_iconst (v := 2) hx hb dL_law_703 (by decide) ?_
  refine lv_iadd hx hb dL_law_704 ?_
  refine lv_topi (fun ix4 ex4 => ?_)
  refine va_sld hx hb hX hbl hbA hS (ix_in hi0 hi1 hL ex4 (by decide) (by decide)) dL_law_705 ?_
  refine lv_topi (fun a4 ea4 => ?_)
  refine lv_aload_n hx hb dL_law_706 rfl (lv_at hl 0 rfl) ?_
  refine lv_iload_n hx hb dL_law_707 rfl (lv_at hl 3 rfl) ?_
  refine lv_iconst (v := 3) hx hb dL_law_708 (by decide) ?_
  refine lv_iadd hx hb dL_law_709 ?_
  refine lv_topi (fun ix5 ex5 => ?_)
  refine va_sld hx hb hX hbl hbA hS (ix_in hi0 hi1 hL ex5 (by decide) (by decide)) dL_law_710 ?_
  refine lv_topi (fun a5 ea5 => ?_)
  have e_a3 : a3 = a0 := ea3.trans (by rw [ex3, ← ex0]; exact ea0.symm)
  rw [e_a3]
  have e_a4 : a4 = a1 := ea4.trans (by rw [ex4, ← ex1]; exact ea1.symm)
  rw [e_a4]
  have e_a5 : a5 = a2 := ea5.trans (by rw [ex5, ← ex2]; exact ea2.symm)
  rw [e_a5]
  refine cm_asks l C0 hA hN hK (Nat.le_of_ble_eq_true rfl) a0 a1 a2 hCM (P_perm List.perm_append_comm hP) (D_perm List.perm_append_comm hD) hS hl.1 hf (fun r2 wm H locs hans2 hCM hP hD hS => ?_)
  replace hP := P_perm List.perm_append_comm hP
  replace hD := D_perm List.perm_append_comm hD
  refine lv_pop hx hb dL_law_714 rfl ?_
  refine lv_goto (tgt := 1456) hx hb dL_law_715 (by decide) ?_
  refine W.widen (k := cells + 3) (n := slots + 464) (by omega) (by omega) ?_
  exact K _ _ _ _ _ _ _ _ _ _ _ _ _ _ wx wm _ _ ls hCX hCM hP hD hS hl

set_option maxHeartbeats 1000000 in
set_option maxRecDepth 100000 in
theorem lw_c_loud {p : Program} {e : Env} {s : State} {m : MethodId} {below : List Frame} {meth : Method} {c : Code} (l : Launch) {sb L : Nat} {xs : Nat → Int32} {A : Nat → Prop} (C0 : lw_At p s m meth c sb L xs) (hL : L ≤ 3072) (hA : ∀ q, s.heap.size ≤ q → A q) (hbA : ¬ A sb) {G : va_G} {cs : Nat → ClassId} {xe : XE} (hN : NW s) (hK : va_K G vwCl (tyL cs) s) (hxe : isRf xe.2.2) (hZ : XZ xe A s) {Q : State → Prop} {h0 m0 : Nat} {cells slots : Nat} (hf : cells ≤ 580000 ∧ slots ≤ 7290000) {i : Int32} (hi0 : 0 ≤ i.toInt) (hi1 : i.toInt + 6 ≤ (L : Int)) (K : ∀ (kx : Nat → Int32) (lx : Int32) (tx : Nat → Int32) (zw : Nat → Int) (zU : UL) (zl : Nat → List Cls) (zWI : Nat → Nat → Int) (zLI : Nat → Nat → List Cls) (zft : Int) (zsp : Int) (zmd : Int) (zla : Int) (zrf : Nat → Int32) (zD : ODr) (wx wm : va_W) (H : Heap) (locs : List Loc) (ls : Array Slot), CX cs h0 kx lx tx zw zU zl zWI zLI zft zsp zmd zla zrf zD wx → CM cs m0 kx lx tx zw zU zl zWI zLI zft zsp zmd zla zrf zD wm → va_P G vwCl (wx ++ wm) H → va_D A (wx ++ wm) → va_S A s.heap H locs → lv_has ls 4 [(0, Value.ref sb), (1, Value.ref h0), (2, Value.ref m0), (3, Value.int i)] → W p l e room_1 s m #[Value.ref sb] below meth c H locs (cells + 3) (slots + 464) Q (F0 m 1456 ls [])) {kx : Nat → Int32} {lx : Int32} {tx : Nat → Int32} {zw : Nat → Int} {zU : UL} {zl : Nat → List Cls} {zWI : Nat → Nat → Int} {zLI : Nat → Nat → List Cls} {zft : Int} {zsp : Int} {zmd : Int} {zla : Int} {zrf : Nat → Int32} {zD : ODr} {wx wm : va_W} {H : Heap} {locs : List Loc} {ls : Array Slot} (hCX : CX cs h0 kx lx tx zw zU zl zWI zLI zft zsp zmd zla zrf zD wx) (hCM : CM cs m0 kx lx tx zw zU zl zWI zLI zft zsp zmd zla zrf zD wm) (hP : va_P G vwCl (wx ++ wm) H) (hD : va_D A (wx ++ wm)) (hS : va_S A s.heap H locs) (hl : lv_has ls 4 [(0, Value.ref sb), (1, Value.ref h0), (2, Value.ref m0), (3, Value.int i)]) : W p l e room_1 s m #[Value.ref sb] below meth c H locs cells slots Q (F0 m 718 ls []) := by
  obtain ⟨hx, hb, hr, hml, hown, hts, hX, hbl, hlocks, hgv⟩ := id C0
  have hb : c.code = cL_law := hb
  have hown : s.vm.findClass RL = some m.cls := hown
  have htl := gW_l hts
  have hf : cells ≤ 590000 ∧ slots ≤ 7300000 := (by first | with_reducible assumption | exact ⟨by omega, by omega⟩)
  refine lv_aload_n hx hb dL_law_718 rfl (lv_at hl 1 rfl) ?_
  refine lv_aload_n hx hb dL_law_719 rfl (lv_at hl 0 rfl) ?_
  refine lv_iload_n hx hb dL_law_720 rfl (lv_at hl 3 rfl) ?_
  refine lv_iconst (v := 1) hx hb dL_law_721 (by decide) ?_
  refine lv_iadd hx hb dL_law_722 ?_
  refine lv_topi (fun ix0 ex0 => ?_)
  refine va_sld hx hb hX hbl hbA hS (ix_in hi0 hi1 hL ex0 (by decide) (by decide)) dL_law_723 ?_
  refine lv_topi (fun a0 ea0 => ?_)
  refine lv_aload_n hx hb dL_law_724 rfl (lv_at hl 0 rfl) ?_
  refine lv_iload_n hx hb dL_law_725 rfl (lv_at hl 3 rfl) ?_
  refine lv_iconst (v := 2) hx hb dL_law_726 (by decide) ?_
  refine lv_iadd hx hb dL_law_727 ?_
  refine lv_topi (fun ix1 ex1 => ?_)
  refine va_sld hx hb hX hbl hbA hS (ix_in hi0 hi1 hL ex1 (by decide) (by decide)) dL_law_728 ?_
  refine lv_topi (fun a1 ea1 => ?_)
  refine cx_loud l C0 hA hN hK hxe hZ a0 a1 hCX hP hD hS hl.1 hf (fun r wx H locs hans hCX hP hD hS => ?_)
  refine lv_pop hx hb dL_law_732 rfl ?_
  refine lv_aload_n hx hb dL_law_733 rfl (lv_at hl 2 rfl) ?_
  refine lv_aload_n hx hb dL_law_734 rfl (lv_at hl 0 rfl) ?_
  refine lv_iload_n hx hb dL_law_735 rfl (lv_at hl 3 rfl) ?_
  refine lv_iconst (v := 1) hx hb dL_law_736 (by decide) ?_
  refine lv_iadd hx hb dL_law_737 ?_
  refine lv_topi (fun ix2 ex2 => ?_)
  refine va_sld hx hb hX hbl hbA hS (ix_in hi0 hi1 hL ex2 (by decide) (by decide)) dL_law_738 ?_
  refine lv_topi (fun a2 ea2 => ?_)
  refine lv_aload_n hx hb dL_law_739 rfl (lv_at hl 0 rfl) ?_
  refine lv_iload_n hx hb dL_law_740 rfl (lv_at hl 3 rfl) ?_
  refine lv_iconst (v := 2) hx hb dL_law_741 (by decide) ?_
  refine lv_iadd hx hb dL_law_742 ?_
  refine lv_topi (fun ix3 ex3 => ?_)
  refine va_sld hx hb hX hbl hbA hS (ix_in hi0 hi1 hL ex3 (by decide) (by decide)) dL_law_743 ?_
  refine lv_topi (fun a3 ea3 => ?_)
  have e_a2 : a2 = a0 := ea2.trans (by rw [ex2, ← ex0]; exact ea0.symm)
  rw [e_a2]
  have e_a3 : a3 = a1 := ea3.trans (by rw [ex3, ← ex1]; exact ea1.symm)
  rw [e_a3]
  refine cm_loud l C0 hA hN hK (Nat.le_of_ble_eq_true rfl) a0 a1 hCM (P_perm List.perm_append_comm hP) (D_perm List.perm_append_comm hD) hS hl.1 hf (fun r2 wm H locs hans2 hCM hP hD hS => ?_)
  replace hP := P_perm List.perm_append_comm hP
  replace hD := D_perm List.perm_append_comm hD
  refine lv_pop hx hb dL_law_747 rfl ?_
  refine lv_goto (tgt := 1456) hx hb dL_law_748 (by decide) ?_
  refine W.widen (k := cells + 3) (n := slots + 464) (by omega) (by omega) ?_
  exact K _ _ _ _ _ _ _ _ _ _ _ _ _ _ wx wm _ _ ls hCX hCM hP hD hS hl

set_option maxHeartbeats 1000000 in
set_option maxRecDepth 100000 in
theorem lw_c_din {p : Program} {e : Env} {s : State} {m : MethodId} {below : List Frame} {meth : Method} {c : Code} (l : Launch) {sb L : Nat} {xs : Nat → Int32} {A : Nat → Prop} (C0 : lw_At p s m meth c sb L xs) (hL : L ≤ 3072) (hA : ∀ q, s.heap.size ≤ q → A q) (hbA : ¬ A sb) {G : va_G} {cs : Nat → ClassId} {xe : XE} (hN : NW s) (hK : va_K G vwCl (tyL cs) s) (hxe : isRf xe.2.2) (hZ : XZ xe A s) {Q : State → Prop} {h0 m0 : Nat} {cells slots : Nat} (hf : cells ≤ 580000 ∧ slots ≤ 7290000) {i : Int32} (hi0 : 0 ≤ i.toInt) (hi1 : i.toInt + 6 ≤ (L : Int)) (K : ∀ (kx : Nat → Int32) (lx : Int32) (tx : Nat → Int32) (zw : Nat → Int) (zU : UL) (zl : Nat → List Cls) (zWI : Nat → Nat → Int) (zLI : Nat → Nat → List Cls) (zft : Int) (zsp : Int) (zmd : Int) (zla : Int) (zrf : Nat → Int32) (zD : ODr) (wx wm : va_W) (H : Heap) (locs : List Loc) (ls : Array Slot), CX cs h0 kx lx tx zw zU zl zWI zLI zft zsp zmd zla zrf zD wx → CM cs m0 kx lx tx zw zU zl zWI zLI zft zsp zmd zla zrf zD wm → va_P G vwCl (wx ++ wm) H → va_D A (wx ++ wm) → va_S A s.heap H locs → lv_has ls 4 [(0, Value.ref sb), (1, Value.ref h0), (2, Value.ref m0), (3, Value.int i)] → W p l e room_1 s m #[Value.ref sb] below meth c H locs (cells + 3) (slots + 464) Q (F0 m 1456 ls [])) {kx : Nat → Int32} {lx : Int32} {tx : Nat → Int32} {zw : Nat → Int} {zU : UL} {zl : Nat → List Cls} {zWI : Nat → Nat → Int} {zLI : Nat → Nat → List Cls} {zft : Int} {zsp : Int} {zmd : Int} {zla : Int} {zrf : Nat → Int32} {zD : ODr} {wx wm : va_W} {H : Heap} {locs : List Loc} {ls : Array Slot} (hCX : CX cs h0 kx lx tx zw zU zl zWI zLI zft zsp zmd zla zrf zD wx) (hCM : CM cs m0 kx lx tx zw zU zl zWI zLI zft zsp zmd zla zrf zD wm) (hP : va_P G vwCl (wx ++ wm) H) (hD : va_D A (wx ++ wm)) (hS : va_S A s.heap H locs) (hl : lv_has ls 4 [(0, Value.ref sb), (1, Value.ref h0), (2, Value.ref m0), (3, Value.int i)]) : W p l e room_1 s m #[Value.ref sb] below meth c H locs cells slots Q (F0 m 751 ls []) := by
  obtain ⟨hx, hb, hr, hml, hown, hts, hX, hbl, hlocks, hgv⟩ := id C0
  have hb : c.code = cL_law := hb
  have hown : s.vm.findClass RL = some m.cls := hown
  have htl := gW_l hts
  have hf : cells ≤ 590000 ∧ slots ≤ 7300000 := (by first | with_reducible assumption | exact ⟨by omega, by omega⟩)
  refine lv_aload_n hx hb dL_law_751 rfl (lv_at hl 1 rfl) ?_
  refine lv_aload_n hx hb dL_law_752 rfl (lv_at hl 0 rfl) ?_
  refine lv_iload_n hx hb dL_law_753 rfl (lv_at hl 3 rfl) ?_
  refine lv_iconst (v := 1) hx hb dL_law_754 (by decide) ?_
  refine lv_iadd hx hb dL_law_755 ?_
  refine lv_topi (fun ix0 ex0 => ?_)
  refine va_sld hx hb hX hbl hbA hS (ix_in hi0 hi1 hL ex0 (by decide) (by decide)) dL_law_756 ?_
  refine lv_topi (fun a0 ea0 => ?_)
  refine cx_din l C0 hA hN hK hxe hZ a0 hCX hP hD hS hl.1 hf (fun r wx H locs hans hCX hP hD hS => ?_)
  refine lv_pop hx hb dL_law_760 rfl ?_
  refine lv_aload_n hx hb dL_law_761 rfl (lv_at hl 2 rfl) ?_
  refine lv_aload_n hx hb dL_law_762 rfl (lv_at hl 0 rfl) ?_
  refine lv_iload_n hx hb dL_law_763 rfl (lv_at hl 3 rfl) ?_
  refine lv_iconst (v := 1) hx hb dL_law_764 (by decide) ?_
  refine lv_iadd hx hb dL_law_765 ?_
  refine lv_topi (fun ix1 ex1 => ?_)
  refine va_sld hx hb hX hbl hbA hS (ix_in hi0 hi1 hL ex1 (by decide) (by decide)) dL_law_766 ?_
  refine lv_topi (fun a1 ea1 => ?_)
  have e_a1 : a1 = a0 := ea1.trans (by rw [ex1, ← ex0]; exact ea0.symm)
  rw [e_a1]
  refine cm_din l C0 hA hN hK (Nat.le_of_ble_eq_true rfl) a0 hCM (P_perm List.perm_append_comm hP) (D_perm List.perm_append_comm hD) hS hl.1 hf (fun r2 wm H locs hans2 hCM hP hD hS => ?_)
  replace hP := P_perm List.perm_append_comm hP
  replace hD := D_perm List.perm_append_comm hD
  refine lv_pop hx hb dL_law_770 rfl ?_
  refine lv_goto (tgt := 1456) hx hb dL_law_771 (by decide) ?_
  refine W.widen (k := cells + 3) (n := slots + 464) (by omega) (by omega) ?_
  exact K _ _ _ _ _ _ _ _ _ _ _ _ _ _ wx wm _ _ ls hCX hCM hP hD hS hl

set_option maxHeartbeats 1000000 in
set_option maxRecDepth 100000 in
theorem lw_c_hears {p : Program} {e : Env} {s : State} {m : MethodId} {below : List Frame} {meth : Method} {c : Code} (l : Launch) {sb L : Nat} {xs : Nat → Int32} {A : Nat → Prop} (C0 : lw_At p s m meth c sb L xs) (hL : L ≤ 3072) (hA : ∀ q, s.heap.size ≤ q → A q) (hbA : ¬ A sb) {G : va_G} {cs : Nat → ClassId} {xe : XE} (hN : NW s) (hK : va_K G vwCl (tyL cs) s) (hxe : isRf xe.2.2) (hZ : XZ xe A s) {Q : State → Prop} {h0 m0 : Nat} {cells slots : Nat} (hf : cells ≤ 580000 ∧ slots ≤ 7290000) {i : Int32} (hi0 : 0 ≤ i.toInt) (hi1 : i.toInt + 6 ≤ (L : Int)) (K : ∀ (kx : Nat → Int32) (lx : Int32) (tx : Nat → Int32) (zw : Nat → Int) (zU : UL) (zl : Nat → List Cls) (zWI : Nat → Nat → Int) (zLI : Nat → Nat → List Cls) (zft : Int) (zsp : Int) (zmd : Int) (zla : Int) (zrf : Nat → Int32) (zD : ODr) (wx wm : va_W) (H : Heap) (locs : List Loc) (ls : Array Slot), CX cs h0 kx lx tx zw zU zl zWI zLI zft zsp zmd zla zrf zD wx → CM cs m0 kx lx tx zw zU zl zWI zLI zft zsp zmd zla zrf zD wm → va_P G vwCl (wx ++ wm) H → va_D A (wx ++ wm) → va_S A s.heap H locs → lv_has ls 4 [(0, Value.ref sb), (1, Value.ref h0), (2, Value.ref m0), (3, Value.int i)] → W p l e room_1 s m #[Value.ref sb] below meth c H locs (cells + 3) (slots + 464) Q (F0 m 1456 ls [])) {kx : Nat → Int32} {lx : Int32} {tx : Nat → Int32} {zw : Nat → Int} {zU : UL} {zl : Nat → List Cls} {zWI : Nat → Nat → Int} {zLI : Nat → Nat → List Cls} {zft : Int} {zsp : Int} {zmd : Int} {zla : Int} {zrf : Nat → Int32} {zD : ODr} {wx wm : va_W} {H : Heap} {locs : List Loc} {ls : Array Slot} (hCX : CX cs h0 kx lx tx zw zU zl zWI zLI zft zsp zmd zla zrf zD wx) (hCM : CM cs m0 kx lx tx zw zU zl zWI zLI zft zsp zmd zla zrf zD wm) (hP : va_P G vwCl (wx ++ wm) H) (hD : va_D A (wx ++ wm)) (hS : va_S A s.heap H locs) (hl : lv_has ls 4 [(0, Value.ref sb), (1, Value.ref h0), (2, Value.ref m0), (3, Value.int i)]) : W p l e room_1 s m #[Value.ref sb] below meth c H locs cells slots Q (F0 m 774 ls []) := by
  obtain ⟨hx, hb, hr, hml, hown, hts, hX, hbl, hlocks, hgv⟩ := id C0
  have hb : c.code = cL_law := hb
  have hown : s.vm.findClass RL = some m.cls := hown
  have htl := gW_l hts
  have hf : cells ≤ 590000 ∧ slots ≤ 7300000 := (by first | with_reducible assumption | exact ⟨by omega, by omega⟩)
  refine lv_aload_n hx hb dL_law_774 rfl (lv_at hl 1 rfl) ?_
  refine lv_aload_n hx hb dL_law_775 rfl (lv_at hl 0 rfl) ?_
  refine lv_iload_n hx hb dL_law_776 rfl (lv_at hl 3 rfl) ?_
  refine lv_iconst (v := 1) hx hb dL_law_777 (by decide) ?_
  refine lv_iadd hx hb dL_law_778 ?_
  refine lv_topi (fun ix0 ex0 => ?_)
  refine va_sld hx hb hX hbl hbA hS (ix_in hi0 hi1 hL ex0 (by decide) (by decide)) dL_law_779 ?_
  refine lv_topi (fun a0 ea0 => ?_)
  refine cx_hears l C0 hA hN hK hxe hZ a0 hCX hP hD hS hl.1 hf (fun r wx H locs hans hCX hP hD hS => ?_)
  refine lv_pop2_2 hx hb dL_law_783 rfl ?_
  refine lv_aload_n hx hb dL_law_784 rfl (lv_at hl 2 rfl) ?_
  refine lv_aload_n hx hb dL_law_785 rfl (lv_at hl 0 rfl) ?_
  refine lv_iload_n hx hb dL_law_786 rfl (lv_at hl 3 rfl) ?_
  refine lv_iconst (v := 1) hx hb dL_law_787 (by decide) ?_
  refine lv_iadd hx hb dL_law_788 ?_
  refine lv_topi (fun ix1 ex1 => ?_)
  refine va_sld hx hb hX hbl hbA hS (ix_in hi0 hi1 hL ex1 (by decide) (by decide)) dL_law_789 ?_
  refine lv_topi (fun a1 ea1 => ?_)
  have e_a1 : a1 = a0 := ea1.trans (by rw [ex1, ← ex0]; exact ea0.symm)
  rw [e_a1]
  refine cm_hears l C0 hA hN hK (Nat.le_of_ble_eq_true rfl) a0 hCM (P_perm List.perm_append_comm hP) (D_perm List.perm_append_comm hD) hS hl.1 hf (fun r2 wm H locs hans2 hCM hP hD hS => ?_)
  replace hP := P_perm List.perm_append_comm hP
  replace hD := D_perm List.perm_append_comm hD
  refine lv_pop2_2 hx hb dL_law_793 rfl ?_
  refine lv_goto (tgt := 1456) hx hb dL_law_794 (by decide) ?_
  refine W.widen (k := cells + 3) (n := slots + 464) (by omega) (by omega) ?_
  exact K _ _ _ _ _ _ _ _ _ _ _ _ _ _ wx wm _ _ ls hCX hCM hP hD hS hl

set_option maxHeartbeats 1000000 in
set_option maxRecDepth 100000 in
theorem lw_c_dig {p : Program} {e : Env} {s : State} {m : MethodId} {below : List Frame} {meth : Method} {c : Code} (l : Launch) {sb L : Nat} {xs : Nat → Int32} {A : Nat → Prop} (C0 : lw_At p s m meth c sb L xs) (hL : L ≤ 3072) (hA : ∀ q, s.heap.size ≤ q → A q) (hbA : ¬ A sb) {G : va_G} {cs : Nat → ClassId} {xe : XE} (hN : NW s) (hK : va_K G vwCl (tyL cs) s) (hxe : isRf xe.2.2) (hZ : XZ xe A s) {Q : State → Prop} {h0 m0 : Nat} {cells slots : Nat} (hf : cells ≤ 580000 ∧ slots ≤ 7290000) {i : Int32} (hi0 : 0 ≤ i.toInt) (hi1 : i.toInt + 6 ≤ (L : Int)) (K : ∀ (kx : Nat → Int32) (lx : Int32) (tx : Nat → Int32) (zw : Nat → Int) (zU : UL) (zl : Nat → List Cls) (zWI : Nat → Nat → Int) (zLI : Nat → Nat → List Cls) (zft : Int) (zsp : Int) (zmd : Int) (zla : Int) (zrf : Nat → Int32) (zD : ODr) (wx wm : va_W) (H : Heap) (locs : List Loc) (ls : Array Slot), CX cs h0 kx lx tx zw zU zl zWI zLI zft zsp zmd zla zrf zD wx → CM cs m0 kx lx tx zw zU zl zWI zLI zft zsp zmd zla zrf zD wm → va_P G vwCl (wx ++ wm) H → va_D A (wx ++ wm) → va_S A s.heap H locs → lv_has ls 4 [(0, Value.ref sb), (1, Value.ref h0), (2, Value.ref m0), (3, Value.int i)] → W p l e room_1 s m #[Value.ref sb] below meth c H locs (cells + 3) (slots + 464) Q (F0 m 1456 ls [])) {kx : Nat → Int32} {lx : Int32} {tx : Nat → Int32} {zw : Nat → Int} {zU : UL} {zl : Nat → List Cls} {zWI : Nat → Nat → Int} {zLI : Nat → Nat → List Cls} {zft : Int} {zsp : Int} {zmd : Int} {zla : Int} {zrf : Nat → Int32} {zD : ODr} {wx wm : va_W} {H : Heap} {locs : List Loc} {ls : Array Slot} (hCX : CX cs h0 kx lx tx zw zU zl zWI zLI zft zsp zmd zla zrf zD wx) (hCM : CM cs m0 kx lx tx zw zU zl zWI zLI zft zsp zmd zla zrf zD wm) (hP : va_P G vwCl (wx ++ wm) H) (hD : va_D A (wx ++ wm)) (hS : va_S A s.heap H locs) (hl : lv_has ls 4 [(0, Value.ref sb), (1, Value.ref h0), (2, Value.ref m0), (3, Value.int i)]) : W p l e room_1 s m #[Value.ref sb] below meth c H locs cells slots Q (F0 m 797 ls []) := by
  obtain ⟨hx, hb, hr, hml, hown, hts, hX, hbl, hlocks, hgv⟩ := id C0
  have hb : c.code = cL_law := hb
  have hown : s.vm.findClass RL = some m.cls := hown
  have htl := gW_l hts
  have hf : cells ≤ 590000 ∧ slots ≤ 7300000 := (by first | with_reducible assumption | exact ⟨by omega, by omega⟩)
  refine lv_aload_n hx hb dL_law_797 rfl (lv_at hl 1 rfl) ?_
  refine lv_aload_n hx hb dL_law_798 rfl (lv_at hl 0 rfl) ?_
  refine lv_iload_n hx hb dL_law_799 rfl (lv_at hl 3 rfl) ?_
  refine lv_iconst (v := 1) hx hb dL_law_800 (by decide) ?_
  refine lv_iadd hx hb dL_law_801 ?_
  refine lv_topi (fun ix0 ex0 => ?_)
  refine va_sld hx hb hX hbl hbA hS (ix_in hi0 hi1 hL ex0 (by decide) (by decide)) dL_law_802 ?_
  refine lv_topi (fun a0 ea0 => ?_)
  refine lv_aload_n hx hb dL_law_803 rfl (lv_at hl 0 rfl) ?_
  refine lv_iload_n hx hb dL_law_804 rfl (lv_at hl 3 rfl) ?_
  refine lv_iconst (v := 2) hx hb dL_law_805 (by decide) ?_
  refine lv_iadd hx hb dL_law_806 ?_
  refine lv_topi (fun ix1 ex1 => ?_)
  refine va_sld hx hb hX hbl hbA hS (ix_in hi0 hi1 hL ex1 (by decide) (by decide)) dL_law_807 ?_
  refine lv_topi (fun a1 ea1 => ?_)
  refine cx_dig l C0 hA hN hK hxe hZ a0 a1 hCX hP hD hS hl.1 hf (fun r wx H locs hans hCX hP hD hS => ?_)
  refine lv_pop hx hb dL_law_811 rfl ?_
  refine lv_aload_n hx hb dL_law_812 rfl (lv_at hl 2 rfl) ?_
  refine lv_aload_n hx hb dL_law_813 rfl (lv_at hl 0 rfl) ?_
  refine lv_iload_n hx hb dL_law_814 rfl (lv_at hl 3 rfl) ?_
  refine lv_iconst (v := 1) hx hb dL_law_815 (by decide) ?_
  refine lv_iadd hx hb dL_law_816 ?_
  refine lv_topi (fun ix2 ex2 => ?_)
  refine va_sld hx hb hX hbl hbA hS (ix_in hi0 hi1 hL ex2 (by decide) (by decide)) dL_law_817 ?_
  refine lv_topi (fun a2 ea2 => ?_)
  refine lv_aload_n hx hb dL_law_818 rfl (lv_at hl 0 rfl) ?_
  refine lv_iload_n hx hb dL_law_819 rfl (lv_at hl 3 rfl) ?_
  refine lv_iconst (v := 2) hx hb dL_law_820 (by decide) ?_
  refine lv_iadd hx hb dL_law_821 ?_
  refine lv_topi (fun ix3 ex3 => ?_)
  refine va_sld hx hb hX hbl hbA hS (ix_in hi0 hi1 hL ex3 (by decide) (by decide)) dL_law_822 ?_
  refine lv_topi (fun a3 ea3 => ?_)
  have e_a2 : a2 = a0 := ea2.trans (by rw [ex2, ← ex0]; exact ea0.symm)
  rw [e_a2]
  have e_a3 : a3 = a1 := ea3.trans (by rw [ex3, ← ex1]; exact ea1.symm)
  rw [e_a3]
  refine cm_dig l C0 hA hN hK (Nat.le_of_ble_eq_true rfl) a0 a1 hCM (P_perm List.perm_append_comm hP) (D_perm List.perm_append_comm hD) hS hl.1 hf (fun r2 wm H locs hans2 hCM hP hD hS => ?_)
  replace hP := P_perm List.perm_append_comm hP
  replace hD := D_perm List.perm_append_comm hD
  refine lv_pop hx hb dL_law_826 rfl ?_
  refine lv_goto (tgt := 1456) hx hb dL_law_827 (by decide) ?_
  refine W.widen (k := cells + 3) (n := slots + 464) (by omega) (by omega) ?_
  exact K _ _ _ _ _ _ _ _ _ _ _ _ _ _ wx wm _ _ ls hCX hCM hP hD hS hl

set_option maxHeartbeats 1000000 in
set_option maxRecDepth 100000 in
theorem lw_c_haul {p : Program} {e : Env} {s : State} {m : MethodId} {below : List Frame} {meth : Method} {c : Code} (l : Launch) {sb L : Nat} {xs : Nat → Int32} {A : Nat → Prop} (C0 : lw_At p s m meth c sb L xs) (hL : L ≤ 3072) (hA : ∀ q, s.heap.size ≤ q → A q) (hbA : ¬ A sb) {G : va_G} {cs : Nat → ClassId} {xe : XE} (hN : NW s) (hK : va_K G vwCl (tyL cs) s) (hxe : isRf xe.2.2) (hZ : XZ xe A s) {Q : State → Prop} {h0 m0 : Nat} {cells slots : Nat} (hf : cells ≤ 580000 ∧ slots ≤ 7290000) {i : Int32} (hi0 : 0 ≤ i.toInt) (hi1 : i.toInt + 6 ≤ (L : Int)) (K : ∀ (kx : Nat → Int32) (lx : Int32) (tx : Nat → Int32) (zw : Nat → Int) (zU : UL) (zl : Nat → List Cls) (zWI : Nat → Nat → Int) (zLI : Nat → Nat → List Cls) (zft : Int) (zsp : Int) (zmd : Int) (zla : Int) (zrf : Nat → Int32) (zD : ODr) (wx wm : va_W) (H : Heap) (locs : List Loc) (ls : Array Slot), CX cs h0 kx lx tx zw zU zl zWI zLI zft zsp zmd zla zrf zD wx → CM cs m0 kx lx tx zw zU zl zWI zLI zft zsp zmd zla zrf zD wm → va_P G vwCl (wx ++ wm) H → va_D A (wx ++ wm) → va_S A s.heap H locs → lv_has ls 4 [(0, Value.ref sb), (1, Value.ref h0), (2, Value.ref m0), (3, Value.int i)] → W p l e room_1 s m #[Value.ref sb] below meth c H locs (cells + 3) (slots + 464) Q (F0 m 1456 ls [])) {kx : Nat → Int32} {lx : Int32} {tx : Nat → Int32} {zw : Nat → Int} {zU : UL} {zl : Nat → List Cls} {zWI : Nat → Nat → Int} {zLI : Nat → Nat → List Cls} {zft : Int} {zsp : Int} {zmd : Int} {zla : Int} {zrf : Nat → Int32} {zD : ODr} {wx wm : va_W} {H : Heap} {locs : List Loc} {ls : Array Slot} (hCX : CX cs h0 kx lx tx zw zU zl zWI zLI zft zsp zmd zla zrf zD wx) (hCM : CM cs m0 kx lx tx zw zU zl zWI zLI zft zsp zmd zla zrf zD wm) (hP : va_P G vwCl (wx ++ wm) H) (hD : va_D A (wx ++ wm)) (hS : va_S A s.heap H locs) (hl : lv_has ls 4 [(0, Value.ref sb), (1, Value.ref h0), (2, Value.ref m0), (3, Value.int i)]) : W p l e room_1 s m #[Value.ref sb] below meth c H locs cells slots Q (F0 m 830 ls []) := by
  obtain ⟨hx, hb, hr, hml, hown, hts, hX, hbl, hlocks, hgv⟩ := id C0
  have hb : c.code = cL_law := hb
  have hown : s.vm.findClass RL = some m.cls := hown
  have htl := gW_l hts
  have hf : cells ≤ 590000 ∧ slots ≤ 7300000 := (by first | with_reducible assumption | exact ⟨by omega, by omega⟩)
  refine lv_aload_n hx hb dL_law_830 rfl (lv_at hl 1 rfl) ?_
  refine lv_aload_n hx hb dL_law_831 rfl (lv_at hl 0 rfl) ?_
  refine lv_iload_n hx hb dL_law_832 rfl (lv_at hl 3 rfl) ?_
  refine lv_iconst (v := 1) hx hb dL_law_833 (by decide) ?_
  refine lv_iadd hx hb dL_law_834 ?_
  refine lv_topi (fun ix0 ex0 => ?_)
  refine va_sld hx hb hX hbl hbA hS (ix_in hi0 hi1 hL ex0 (by decide) (by decide)) dL_law_835 ?_
  refine lv_topi (fun a0 ea0 => ?_)
  refine cx_haul l C0 hA hN hK hxe hZ a0 hCX hP hD hS hl.1 hf (fun r wx H locs hans hCX hP hD hS => ?_)
  refine lv_pop hx hb dL_law_839 rfl ?_
  refine lv_aload_n hx hb dL_law_840 rfl (lv_at hl 2 rfl) ?_
  refine lv_aload_n hx hb dL_law_841 rfl (lv_at hl 0 rfl) ?_
  refine lv_iload_n hx hb dL_law_842 rfl (lv_at hl 3 rfl) ?_
  refine lv_iconst (v := 1) hx hb dL_law_843 (by decide) ?_
  refine lv_iadd hx hb dL_law_844 ?_
  refine lv_topi (fun ix1 ex1 => ?_)
  refine va_sld hx hb hX hbl hbA hS (ix_in hi0 hi1 hL ex1 (by decide) (by decide)) dL_law_845 ?_
  refine lv_topi (fun a1 ea1 => ?_)
  have e_a1 : a1 = a0 := ea1.trans (by rw [ex1, ← ex0]; exact ea0.symm)
  rw [e_a1]
  refine cm_haul l C0 hA hN hK (Nat.le_of_ble_eq_true rfl) a0 hCM (P_perm List.perm_append_comm hP) (D_perm List.perm_append_comm hD) hS hl.1 hf (fun r2 wm H locs hans2 hCM hP hD hS => ?_)
  replace hP := P_perm List.perm_append_comm hP
  replace hD := D_perm List.perm_append_comm hD
  refine lv_pop hx hb dL_law_849 rfl ?_
  refine lv_goto (tgt := 1456) hx hb dL_law_850 (by decide) ?_
  refine W.widen (k := cells + 3) (n := slots + 464) (by omega) (by omega) ?_
  exact K _ _ _ _ _ _ _ _ _ _ _ _ _ _ wx wm _ _ ls hCX hCM hP hD hS hl

set_option maxHeartbeats 1000000 in
set_option maxRecDepth 100000 in
theorem lw_c_hush {p : Program} {e : Env} {s : State} {m : MethodId} {below : List Frame} {meth : Method} {c : Code} (l : Launch) {sb L : Nat} {xs : Nat → Int32} {A : Nat → Prop} (C0 : lw_At p s m meth c sb L xs) (hL : L ≤ 3072) (hA : ∀ q, s.heap.size ≤ q → A q) (hbA : ¬ A sb) {G : va_G} {cs : Nat → ClassId} {xe : XE} (hN : NW s) (hK : va_K G vwCl (tyL cs) s) (hxe : isRf xe.2.2) (hZ : XZ xe A s) {Q : State → Prop} {h0 m0 : Nat} {cells slots : Nat} (hf : cells ≤ 580000 ∧ slots ≤ 7290000) {i : Int32} (hi0 : 0 ≤ i.toInt) (hi1 : i.toInt + 6 ≤ (L : Int)) (K : ∀ (kx : Nat → Int32) (lx : Int32) (tx : Nat → Int32) (zw : Nat → Int) (zU : UL) (zl : Nat → List Cls) (zWI : Nat → Nat → Int) (zLI : Nat → Nat → List Cls) (zft : Int) (zsp : Int) (zmd : Int) (zla : Int) (zrf : Nat → Int32) (zD : ODr) (wx wm : va_W) (H : Heap) (locs : List Loc) (ls : Array Slot), CX cs h0 kx lx tx zw zU zl zWI zLI zft zsp zmd zla zrf zD wx → CM cs m0 kx lx tx zw zU zl zWI zLI zft zsp zmd zla zrf zD wm → va_P G vwCl (wx ++ wm) H → va_D A (wx ++ wm) → va_S A s.heap H locs → lv_has ls 4 [(0, Value.ref sb), (1, Value.ref h0), (2, Value.ref m0), (3, Value.int i)] → W p l e room_1 s m #[Value.ref sb] below meth c H locs (cells + 3) (slots + 464) Q (F0 m 1456 ls [])) {kx : Nat → Int32} {lx : Int32} {tx : Nat → Int32} {zw : Nat → Int} {zU : UL} {zl : Nat → List Cls} {zWI : Nat → Nat → Int} {zLI : Nat → Nat → List Cls} {zft : Int} {zsp : Int} {zmd : Int} {zla : Int} {zrf : Nat → Int32} {zD : ODr} {wx wm : va_W} {H : Heap} {locs : List Loc} {ls : Array Slot} (hCX : CX cs h0 kx lx tx zw zU zl zWI zLI zft zsp zmd zla zrf zD wx) (hCM : CM cs m0 kx lx tx zw zU zl zWI zLI zft zsp zmd zla zrf zD wm) (hP : va_P G vwCl (wx ++ wm) H) (hD : va_D A (wx ++ wm)) (hS : va_S A s.heap H locs) (hl : lv_has ls 4 [(0, Value.ref sb), (1, Value.ref h0), (2, Value.ref m0), (3, Value.int i)]) : W p l e room_1 s m #[Value.ref sb] below meth c H locs cells slots Q (F0 m 853 ls []) := by
  obtain ⟨hx, hb, hr, hml, hown, hts, hX, hbl, hlocks, hgv⟩ := id C0
  have hb : c.code = cL_law := hb
  have hown : s.vm.findClass RL = some m.cls := hown
  have htl := gW_l hts
  have hf : cells ≤ 590000 ∧ slots ≤ 7300000 := (by first | with_reducible assumption | exact ⟨by omega, by omega⟩)
  refine lv_aload_n hx hb dL_law_853 rfl (lv_at hl 1 rfl) ?_
  refine lv_aload_n hx hb dL_law_854 rfl (lv_at hl 0 rfl) ?_
  refine lv_iload_n hx hb dL_law_855 rfl (lv_at hl 3 rfl) ?_
  refine lv_iconst (v := 1) hx hb dL_law_856 (by decide) ?_
  refine lv_iadd hx hb dL_law_857 ?_
  refine lv_topi (fun ix0 ex0 => ?_)
  refine va_sld hx hb hX hbl hbA hS (ix_in hi0 hi1 hL ex0 (by decide) (by decide)) dL_law_858 ?_
  refine lv_topi (fun a0 ea0 => ?_)
  refine cx_hush l C0 hA hN hK hxe hZ a0 hCX hP hD hS hl.1 hf (fun r wx H locs hans hCX hP hD hS => ?_)
  refine lv_pop hx hb dL_law_862 rfl ?_
  refine lv_aload_n hx hb dL_law_863 rfl (lv_at hl 2 rfl) ?_
  refine lv_aload_n hx hb dL_law_864 rfl (lv_at hl 0 rfl) ?_
  refine lv_iload_n hx hb dL_law_865 rfl (lv_at hl 3 rfl) ?_
  refine lv_iconst (v := 1) hx hb dL_law_866 (by decide) ?_
  refine lv_iadd hx hb dL_law_867 ?_
  refine lv_topi (fun ix1 ex1 => ?_)
  refine va_sld hx hb hX hbl hbA hS (ix_in hi0 hi1 hL ex1 (by decide) (by decide)) dL_law_868 ?_
  refine lv_topi (fun a1 ea1 => ?_)
  have e_a1 : a1 = a0 := ea1.trans (by rw [ex1, ← ex0]; exact ea0.symm)
  rw [e_a1]
  refine cm_hush l C0 hA hN hK (Nat.le_of_ble_eq_true rfl) a0 hCM (P_perm List.perm_append_comm hP) (D_perm List.perm_append_comm hD) hS hl.1 hf (fun r2 wm H locs hans2 hCM hP hD hS => ?_)
  replace hP := P_perm List.perm_append_comm hP
  replace hD := D_perm List.perm_append_comm hD
  refine lv_pop hx hb dL_law_872 rfl ?_
  refine lv_goto (tgt := 1456) hx hb dL_law_873 (by decide) ?_
  refine W.widen (k := cells + 3) (n := slots + 464) (by omega) (by omega) ?_
  exact K _ _ _ _ _ _ _ _ _ _ _ _ _ _ wx wm _ _ ls hCX hCM hP hD hS hl

set_option maxHeartbeats 1000000 in
set_option maxRecDepth 100000 in
theorem lw_c_lie {p : Program} {e : Env} {s : State} {m : MethodId} {below : List Frame} {meth : Method} {c : Code} (l : Launch) {sb L : Nat} {xs : Nat → Int32} {A : Nat → Prop} (C0 : lw_At p s m meth c sb L xs) (hL : L ≤ 3072) (hA : ∀ q, s.heap.size ≤ q → A q) (hbA : ¬ A sb) {G : va_G} {cs : Nat → ClassId} {xe : XE} (hN : NW s) (hK : va_K G vwCl (tyL cs) s) (hxe : isRf xe.2.2) (hZ : XZ xe A s) {Q : State → Prop} {h0 m0 : Nat} {cells slots : Nat} (hf : cells ≤ 580000 ∧ slots ≤ 7290000) {i : Int32} (hi0 : 0 ≤ i.toInt) (hi1 : i.toInt + 6 ≤ (L : Int)) (K : ∀ (kx : Nat → Int32) (lx : Int32) (tx : Nat → Int32) (zw : Nat → Int) (zU : UL) (zl : Nat → List Cls) (zWI : Nat → Nat → Int) (zLI : Nat → Nat → List Cls) (zft : Int) (zsp : Int) (zmd : Int) (zla : Int) (zrf : Nat → Int32) (zD : ODr) (wx wm : va_W) (H : Heap) (locs : List Loc) (ls : Array Slot), CX cs h0 kx lx tx zw zU zl zWI zLI zft zsp zmd zla zrf zD wx → CM cs m0 kx lx tx zw zU zl zWI zLI zft zsp zmd zla zrf zD wm → va_P G vwCl (wx ++ wm) H → va_D A (wx ++ wm) → va_S A s.heap H locs → lv_has ls 4 [(0, Value.ref sb), (1, Value.ref h0), (2, Value.ref m0), (3, Value.int i)] → W p l e room_1 s m #[Value.ref sb] below meth c H locs (cells + 3) (slots + 464) Q (F0 m 1456 ls [])) {kx : Nat → Int32} {lx : Int32} {tx : Nat → Int32} {zw : Nat → Int} {zU : UL} {zl : Nat → List Cls} {zWI : Nat → Nat → Int} {zLI : Nat → Nat → List Cls} {zft : Int} {zsp : Int} {zmd : Int} {zla : Int} {zrf : Nat → Int32} {zD : ODr} {wx wm : va_W} {H : Heap} {locs : List Loc} {ls : Array Slot} (hCX : CX cs h0 kx lx tx zw zU zl zWI zLI zft zsp zmd zla zrf zD wx) (hCM : CM cs m0 kx lx tx zw zU zl zWI zLI zft zsp zmd zla zrf zD wm) (hP : va_P G vwCl (wx ++ wm) H) (hD : va_D A (wx ++ wm)) (hS : va_S A s.heap H locs) (hl : lv_has ls 4 [(0, Value.ref sb), (1, Value.ref h0), (2, Value.ref m0), (3, Value.int i)]) : W p l e room_1 s m #[Value.ref sb] below meth c H locs cells slots Q (F0 m 876 ls []) := by
  obtain ⟨hx, hb, hr, hml, hown, hts, hX, hbl, hlocks, hgv⟩ := id C0
  have hb : c.code = cL_law := hb
  have hown : s.vm.findClass RL = some m.cls := hown
  have htl := gW_l hts
  have hf : cells ≤ 590000 ∧ slots ≤ 7300000 := (by first | with_reducible assumption | exact ⟨by omega, by omega⟩)
  refine lv_aload_n hx hb dL_law_876 rfl (lv_at hl 1 rfl) ?_
  refine lv_aload_n hx hb dL_law_877 rfl (lv_at hl 0 rfl) ?_
  refine lv_iload_n hx hb dL_law_878 rfl (lv_at hl 3 rfl) ?_
  refine lv_iconst (v := 1) hx hb dL_law_879 (by decide) ?_
  refine lv_iadd hx hb dL_law_880 ?_
  refine lv_topi (fun ix0 ex0 => ?_)
  refine va_sld hx hb hX hbl hbA hS (ix_in hi0 hi1 hL ex0 (by decide) (by decide)) dL_law_881 ?_
  refine lv_topi (fun a0 ea0 => ?_)
  refine lv_aload_n hx hb dL_law_882 rfl (lv_at hl 0 rfl) ?_
  refine lv_iload_n hx hb dL_law_883 rfl (lv_at hl 3 rfl) ?_
  refine lv_iconst (v := 2) hx hb dL_law_884 (by decide) ?_
  refine lv_iadd hx hb dL_law_885 ?_
  refine lv_topi (fun ix1 ex1 => ?_)
  refine va_sld hx hb hX hbl hbA hS (ix_in hi0 hi1 hL ex1 (by decide) (by decide)) dL_law_886 ?_
  refine lv_topi (fun a1 ea1 => ?_)
  refine cx_lie l C0 hA hN hK hxe hZ a0 a1 hCX hP hD hS hl.1 hf (fun r wx H locs hans hCX hP hD hS => ?_)
  refine lv_pop hx hb dL_law_890 rfl ?_
  refine lv_aload_n hx hb dL_law_891 rfl (lv_at hl 2 rfl) ?_
  refine lv_aload_n hx hb dL_law_892 rfl (lv_at hl 0 rfl) ?_
  refine lv_iload_n hx hb dL_law_893 rfl (lv_at hl 3 rfl) ?_
  refine lv_iconst (v := 1) hx hb dL_law_894 (by decide) ?_
  refine lv_iadd hx hb dL_law_895 ?_
  refine lv_topi (fun ix2 ex2 => ?_)
  refine va_sld hx hb hX hbl hbA hS (ix_in hi0 hi1 hL ex2 (by decide) (by decide)) dL_law_896 ?_
  refine lv_topi (fun a2 ea2 => ?_)
  refine lv_aload_n hx hb dL_law_897 rfl (lv_at hl 0 rfl) ?_
  refine lv_iload_n hx hb dL_law_898 rfl (lv_at hl 3 rfl) ?_
  refine lv_iconst (v := 2) hx hb dL_law_899 (by decide) ?_
  refine lv_iadd hx hb dL_law_900 ?_
  refine lv_topi (fun ix3 ex3 => ?_)
  refine va_sld hx hb hX hbl hbA hS (ix_in hi0 hi1 hL ex3 (by decide) (by decide)) dL_law_901 ?_
  refine lv_topi (fun a3 ea3 => ?_)
  have e_a2 : a2 = a0 := ea2.trans (by rw [ex2, ← ex0]; exact ea0.symm)
  rw [e_a2]
  have e_a3 : a3 = a1 := ea3.trans (by rw [ex3, ← ex1]; exact ea1.symm)
  rw [e_a3]
  refine cm_lie l C0 hA hN hK (Nat.le_of_ble_eq_true rfl) a0 a1 hCM (P_perm List.perm_append_comm hP) (D_perm List.perm_append_comm hD) hS hl.1 hf (fun r2 wm H locs hans2 hCM hP hD hS => ?_)
  replace hP := P_perm List.perm_append_comm hP
  replace hD := D_perm List.perm_append_comm hD
  refine lv_pop hx hb dL_law_905 rfl ?_
  refine lv_goto (tgt := 1456) hx hb dL_law_906 (by decide) ?_
  refine W.widen (k := cells + 3) (n := slots + 464) (by omega) (by omega) ?_
  exact K _ _ _ _ _ _ _ _ _ _ _ _ _ _ wx wm _ _ ls hCX hCM hP hD hS hl

set_option maxHeartbeats 1000000 in
set_option maxRecDepth 100000 in
theorem lw_c_undo {p : Program} {e : Env} {s : State} {m : MethodId} {below : List Frame} {meth : Method} {c : Code} (l : Launch) {sb L : Nat} {xs : Nat → Int32} {A : Nat → Prop} (C0 : lw_At p s m meth c sb L xs) (hL : L ≤ 3072) (hA : ∀ q, s.heap.size ≤ q → A q) (hbA : ¬ A sb) {G : va_G} {cs : Nat → ClassId} {xe : XE} (hN : NW s) (hK : va_K G vwCl (tyL cs) s) (hxe : isRf xe.2.2) (hZ : XZ xe A s) {Q : State → Prop} {h0 m0 : Nat} {cells slots : Nat} (hf : cells ≤ 580000 ∧ slots ≤ 7290000) {i : Int32} (hi0 : 0 ≤ i.toInt) (hi1 : i.toInt + 6 ≤ (L : Int)) (K : ∀ (kx : Nat → Int32) (lx : Int32) (tx : Nat → Int32) (zw : Nat → Int) (zU : UL) (zl : Nat → List Cls) (zWI : Nat → Nat → Int) (zLI : Nat → Nat → List Cls) (zft : Int) (zsp : Int) (zmd : Int) (zla : Int) (zrf : Nat → Int32) (zD : ODr) (wx wm : va_W) (H : Heap) (locs : List Loc) (ls : Array Slot), CX cs h0 kx lx tx zw zU zl zWI zLI zft zsp zmd zla zrf zD wx → CM cs m0 kx lx tx zw zU zl zWI zLI zft zsp zmd zla zrf zD wm → va_P G vwCl (wx ++ wm) H → va_D A (wx ++ wm) → va_S A s.heap H locs → lv_has ls 4 [(0, Value.ref sb), (1, Value.ref h0), (2, Value.ref m0), (3, Value.int i)] → W p l e room_1 s m #[Value.ref sb] below meth c H locs (cells + 3) (slots + 464) Q (F0 m 1456 ls [])) {kx : Nat → Int32} {lx : Int32} {tx : Nat → Int32} {zw : Nat → Int} {zU : UL} {zl : Nat → List Cls} {zWI : Nat → Nat → Int} {zLI : Nat → Nat → List Cls} {zft : Int} {zsp : Int} {zmd : Int} {zla : Int} {zrf : Nat → Int32} {zD : ODr} {wx wm : va_W} {H : Heap} {locs : List Loc} {ls : Array Slot} (hCX : CX cs h0 kx lx tx zw zU zl zWI zLI zft zsp zmd zla zrf zD wx) (hCM : CM cs m0 kx lx tx zw zU zl zWI zLI zft zsp zmd zla zrf zD wm) (hP : va_P G vwCl (wx ++ wm) H) (hD : va_D A (wx ++ wm)) (hS : va_S A s.heap H locs) (hl : lv_has ls 4 [(0, Value.ref sb), (1, Value.ref h0), (2, Value.ref m0), (3, Value.int i)]) : W p l e room_1 s m #[Value.ref sb] below meth c H locs cells slots Q (F0 m 909 ls []) := by
  obtain ⟨hx, hb, hr, hml, hown, hts, hX, hbl, hlocks, hgv⟩ := id C0
  have hb : c.code = cL_law := hb
  have hown : s.vm.findClass RL = some m.cls := hown
  have htl := gW_l hts
  have hf : cells ≤ 590000 ∧ slots ≤ 7300000 := (by first | with_reducible assumption | exact ⟨by omega, by omega⟩)
  refine lv_aload_n hx hb dL_law_909 rfl (lv_at hl 1 rfl) ?_
  refine cx_undo l C0 hA hN hK hxe hZ  hCX hP hD hS hl.1 hf (fun r wx H locs hans hCX hP hD hS => ?_)
  refine lv_pop hx hb dL_law_913 rfl ?_
  refine lv_aload_n hx hb dL_law_914 rfl (lv_at hl 2 rfl) ?_
  refine cm_undo l C0 hA hN hK (Nat.le_of_ble_eq_true rfl)  hCM (P_perm List.perm_append_comm hP) (D_perm List.perm_append_comm hD) hS hl.1 hf (fun r2 wm H locs hans2 hCM hP hD hS => ?_)
  replace hP := P_perm List.perm_append_comm hP
  replace hD := D_perm List.perm_append_comm hD
  refine lv_pop hx hb dL_law_918 rfl ?_
  refine lv_goto (tgt := 1456) hx hb dL_law_919 (by decide) ?_
  refine W.widen (k := cells + 3) (n := slots + 464) (by omega) (by omega) ?_
  exact K _ _ _ _ _ _ _ _ _ _ _ _ _ _ wx wm _ _ ls hCX hCM hP hD hS hl

set_option maxHeartbeats 1000000 in
set_option maxRecDepth 100000 in
theorem lw_c_down {p : Program} {e : Env} {s : State} {m : MethodId} {below : List Frame} {meth : Method} {c : Code} (l : Launch) {sb L : Nat} {xs : Nat → Int32} {A : Nat → Prop} (C0 : lw_At p s m meth c sb L xs) (hL : L ≤ 3072) (hA : ∀ q, s.heap.size ≤ q → A q) (hbA : ¬ A sb) {G : va_G} {cs : Nat → ClassId} {xe : XE} (hN : NW s) (hK : va_K G vwCl (tyL cs) s) (hxe : isRf xe.2.2) (hZ : XZ xe A s) {Q : State → Prop} {h0 m0 : Nat} {cells slots : Nat} (hf : cells ≤ 580000 ∧ slots ≤ 7290000) {i : Int32} (hi0 : 0 ≤ i.toInt) (hi1 : i.toInt + 6 ≤ (L : Int)) (K : ∀ (kx : Nat → Int32) (lx : Int32) (tx : Nat → Int32) (zw : Nat → Int) (zU : UL) (zl : Nat → List Cls) (zWI : Nat → Nat → Int) (zLI : Nat → Nat → List Cls) (zft : Int) (zsp : Int) (zmd : Int) (zla : Int) (zrf : Nat → Int32) (zD : ODr) (wx wm : va_W) (H : Heap) (locs : List Loc) (ls : Array Slot), CX cs h0 kx lx tx zw zU zl zWI zLI zft zsp zmd zla zrf zD wx → CM cs m0 kx lx tx zw zU zl zWI zLI zft zsp zmd zla zrf zD wm → va_P G vwCl (wx ++ wm) H → va_D A (wx ++ wm) → va_S A s.heap H locs → lv_has ls 4 [(0, Value.ref sb), (1, Value.ref h0), (2, Value.ref m0), (3, Value.int i)] → W p l e room_1 s m #[Value.ref sb] below meth c H locs (cells + 3) (slots + 464) Q (F0 m 1456 ls [])) {kx : Nat → Int32} {lx : Int32} {tx : Nat → Int32} {zw : Nat → Int} {zU : UL} {zl : Nat → List Cls} {zWI : Nat → Nat → Int} {zLI : Nat → Nat → List Cls} {zft : Int} {zsp : Int} {zmd : Int} {zla : Int} {zrf : Nat → Int32} {zD : ODr} {wx wm : va_W} {H : Heap} {locs : List Loc} {ls : Array Slot} (hCX : CX cs h0 kx lx tx zw zU zl zWI zLI zft zsp zmd zla zrf zD wx) (hCM : CM cs m0 kx lx tx zw zU zl zWI zLI zft zsp zmd zla zrf zD wm) (hP : va_P G vwCl (wx ++ wm) H) (hD : va_D A (wx ++ wm)) (hS : va_S A s.heap H locs) (hl : lv_has ls 4 [(0, Value.ref sb), (1, Value.ref h0), (2, Value.ref m0), (3, Value.int i)]) : W p l e room_1 s m #[Value.ref sb] below meth c H locs cells slots Q (F0 m 922 ls []) := by
  obtain ⟨hx, hb, hr, hml, hown, hts, hX, hbl, hlocks, hgv⟩ := id C0
  have hb : c.code = cL_law := hb
  have hown : s.vm.findClass RL = some m.cls := hown
  have htl := gW_l hts
  have hf : cells ≤ 590000 ∧ slots ≤ 7300000 := (by first | with_reducible assumption | exact ⟨by omega, by omega⟩)
  refine lv_aload_n hx hb dL_law_922 rfl (lv_at hl 1 rfl) ?_
  refine lv_aload_n hx hb dL_law_923 rfl (lv_at hl 0 rfl) ?_
  refine lv_iload_n hx hb dL_law_924 rfl (lv_at hl 3 rfl) ?_
  refine lv_iconst (v := 1) hx hb dL_law_925 (by decide) ?_
  refine lv_iadd hx hb dL_law_926 ?_
  refine lv_topi (fun ix0 ex0 => ?_)
  refine va_sld hx hb hX hbl hbA hS (ix_in hi0 hi1 hL ex0 (by decide) (by decide)) dL_law_927 ?_
  refine lv_topi (fun a0 ea0 => ?_)
  refine lv_aload_n hx hb dL_law_928 rfl (lv_at hl 0 rfl) ?_
  refine lv_iload_n hx hb dL_law_929 rfl (lv_at hl 3 rfl) ?_
  refine lv_iconst (v := 2) hx hb dL_law_930 (by decide) ?_
  refine lv_iadd hx hb dL_law_931 ?_
  refine lv_topi (fun ix1 ex1 => ?_)
  refine va_sld hx hb hX hbl hbA hS (ix_in hi0 hi1 hL ex1 (by decide) (by decide)) dL_law_932 ?_
  refine lv_topi (fun a1 ea1 => ?_)
  refine lv_aload_n hx hb dL_law_933 rfl (lv_at hl 0 rfl) ?_
  refine lv_iload_n hx hb dL_law_934 rfl (lv_at hl 3 rfl) ?_
  refine lv_iconst (v := 3) hx hb dL_law_935 (by decide) ?_
  refine lv_iadd hx hb dL_law_936 ?_
  refine lv_topi (fun ix2 ex2 => ?_)
  refine va_sld hx hb hX hbl hbA hS (ix_in hi0 hi1 hL ex2 (by decide) (by decide)) dL_law_937 ?_
  refine lv_topi (fun a2 ea2 => ?_)
  refine cx_down l C0 hA hN hK hxe hZ a0 a1 a2 hCX hP hD hS hl.1 hf (fun r wx H locs hans hCX hP hD hS => ?_)
  refine lv_pop hx hb dL_law_941 rfl ?_
  refine lv_aload_n hx hb dL_law_942 rfl (lv_at hl 2 rfl) ?_
  refine lv_aload_n hx hb dL_law_943 rfl (lv_at hl 0 rfl) ?_
  refine lv_iload_n hx hb dL_law_944 rfl (lv_at hl 3 rfl) ?_
  refine lv_iconst (v := 1) hx hb dL_law_945 (by decide) ?_
  refine lv_iadd hx hb dL_law_946 ?_
  refine lv_topi (fun ix3 ex3 => ?_)
  refine va_sld hx hb hX hbl hbA hS (ix_in hi0 hi1 hL ex3 (by decide) (by decide)) dL_law_947 ?_
  refine lv_topi (fun a3 ea3 => ?_)
  refine lv_aload_n hx hb dL_law_948 rfl (lv_at hl 0 rfl) ?_
  refine lv_iload_n hx hb dL_law_949 rfl (lv_at hl 3 rfl) ?_
  refine lv_iconst (v := 2) hx hb dL_law_950 (by decide) ?_
  refine lv_iadd hx hb dL_law_951 ?_
  refine lv_topi (fun ix4 ex4 => ?_)
  refine va_sld hx hb hX hbl hbA hS (ix_in hi0 hi1 hL ex4 (by decide) (by decide)) dL_law_952 ?_
  refine lv_topi (fun a4 ea4 => ?_)
  refine lv_aload_n hx hb dL_law_953 rfl (lv_at hl 0 rfl) ?_
  refine lv_iload_n hx hb dL_law_954 rfl (lv_at hl 3 rfl) ?_
  refine lv_iconst (v := 3) hx hb dL_law_955 (by decide) ?_
  refine lv_iadd hx hb dL_law_956 ?_
  refine lv_topi (fun ix5 ex5 => ?_)
  refine va_sld hx hb hX hbl hbA hS (ix_in hi0 hi1 hL ex5 (by decide) (by decide)) dL_law_957 ?_
  refine lv_topi (fun a5 ea5 => ?_)
  have e_a3 : a3 = a0 := ea3.trans (by rw [ex3, ← ex0]; exact ea0.symm)
  rw [e_a3]
  have e_a4 : a4 = a1 := ea4.trans (by rw [ex4, ← ex1]; exact ea1.symm)
  rw [e_a4]
  have e_a5 : a5 = a2 := ea5.trans (by rw [ex5, ← ex2]; exact ea2.symm)
  rw [e_a5]
  refine cm_down l C0 hA hN hK (Nat.le_of_ble_eq_true rfl) a0 a1 a2 hCM (P_perm List.perm_append_comm hP) (D_perm List.perm_append_comm hD) hS hl.1 hf (fun r2 wm H locs hans2 hCM hP hD hS => ?_)
  replace hP := P_perm List.perm_append_comm hP
  replace hD := D_perm List.perm_append_comm hD
  refine lv_pop hx hb dL_law_961 rfl ?_
  refine lv_goto (tgt := 1456) hx hb dL_law_962 (by decide) ?_
  refine W.widen (k := cells + 3) (n := slots + 464) (by omega) (by omega) ?_
  exact K _ _ _ _ _ _ _ _ _ _ _ _ _ _ wx wm _ _ ls hCX hCM hP hD hS hl

set_option maxHeartbeats 1000000 in
set_option maxRecDepth 100000 in
theorem lw_c_gangs {p : Program} {e : Env} {s : State} {m : MethodId} {below : List Frame} {meth : Method} {c : Code} (l : Launch) {sb L : Nat} {xs : Nat → Int32} {A : Nat → Prop} (C0 : lw_At p s m meth c sb L xs) (hL : L ≤ 3072) (hA : ∀ q, s.heap.size ≤ q → A q) (hbA : ¬ A sb) {G : va_G} {cs : Nat → ClassId} {xe : XE} (hN : NW s) (hK : va_K G vwCl (tyL cs) s) (hxe : isRf xe.2.2) (hZ : XZ xe A s) {Q : State → Prop} {h0 m0 : Nat} {cells slots : Nat} (hf : cells ≤ 580000 ∧ slots ≤ 7290000) {i : Int32} (hi0 : 0 ≤ i.toInt) (hi1 : i.toInt + 6 ≤ (L : Int)) (K : ∀ (kx : Nat → Int32) (lx : Int32) (tx : Nat → Int32) (zw : Nat → Int) (zU : UL) (zl : Nat → List Cls) (zWI : Nat → Nat → Int) (zLI : Nat → Nat → List Cls) (zft : Int) (zsp : Int) (zmd : Int) (zla : Int) (zrf : Nat → Int32) (zD : ODr) (wx wm : va_W) (H : Heap) (locs : List Loc) (ls : Array Slot), CX cs h0 kx lx tx zw zU zl zWI zLI zft zsp zmd zla zrf zD wx → CM cs m0 kx lx tx zw zU zl zWI zLI zft zsp zmd zla zrf zD wm → va_P G vwCl (wx ++ wm) H → va_D A (wx ++ wm) → va_S A s.heap H locs → lv_has ls 4 [(0, Value.ref sb), (1, Value.ref h0), (2, Value.ref m0), (3, Value.int i)] → W p l e room_1 s m #[Value.ref sb] below meth c H locs (cells + 3) (slots + 464) Q (F0 m 1456 ls [])) {kx : Nat → Int32} {lx : Int32} {tx : Nat → Int32} {zw : Nat → Int} {zU : UL} {zl : Nat → List Cls} {zWI : Nat → Nat → Int} {zLI : Nat → Nat → List Cls} {zft : Int} {zsp : Int} {zmd : Int} {zla : Int} {zrf : Nat → Int32} {zD : ODr} {wx wm : va_W} {H : Heap} {locs : List Loc} {ls : Array Slot} (hCX : CX cs h0 kx lx tx zw zU zl zWI zLI zft zsp zmd zla zrf zD wx) (hCM : CM cs m0 kx lx tx zw zU zl zWI zLI zft zsp zmd zla zrf zD wm) (hP : va_P G vwCl (wx ++ wm) H) (hD : va_D A (wx ++ wm)) (hS : va_S A s.heap H locs) (hl : lv_has ls 4 [(0, Value.ref sb), (1, Value.ref h0), (2, Value.ref m0), (3, Value.int i)]) : W p l e room_1 s m #[Value.ref sb] below meth c H locs cells slots Q (F0 m 965 ls []) := by
  obtain ⟨hx, hb, hr, hml, hown, hts, hX, hbl, hlocks, hgv⟩ := id C0
  have hb : c.code = cL_law := hb
  have hown : s.vm.findClass RL = some m.cls := hown
  have htl := gW_l hts
  have hf : cells ≤ 590000 ∧ slots ≤ 7300000 := (by first | with_reducible assumption | exact ⟨by omega, by omega⟩)
  refine lv_aload_n hx hb dL_law_965 rfl (lv_at hl 1 rfl) ?_
  refine lv_aload_n hx hb dL_law_966 rfl (lv_at hl 0 rfl) ?_
  refine lv_iload_n hx hb dL_law_967 rfl (lv_at hl 3 rfl) ?_
  refine lv_iconst (v := 1) hx hb dL_law_968 (by decide) ?_
  refine lv_iadd hx hb dL_law_969 ?_
  refine lv_topi (fun ix0 ex0 => ?_)
  refine va_sld hx hb hX hbl hbA hS (ix_in hi0 hi1 hL ex0 (by decide) (by decide)) dL_law_970 ?_
  refine lv_topi (fun a0 ea0 => ?_)
  refine lv_i2l (v := a0.toInt64) hx hb dL_law_971 (by first | rfl | decide) ?_
  refine lv_bipush (v := 32) hx hb dL_law_972 (by decide) ?_
  refine lv_lshl (v := (a0.toInt64 <<< ((32 : Int32).toInt64 &&& 63))) hx hb dL_law_974 (by first | rfl | decide) ?_
  refine lv_aload_n hx hb dL_law_975 rfl (lv_at hl 0 rfl) ?_
  refine lv_iload_n hx hb dL_law_976 rfl (lv_at hl 3 rfl) ?_
  refine lv_iconst (v := 2) hx hb dL_law_977 (by decide) ?_
  refine lv_iadd hx hb dL_law_978 ?_
  refine lv_topi (fun ix1 ex1 => ?_)
  refine va_sld hx hb hX hbl hbA hS (ix_in hi0 hi1 hL ex1 (by decide) (by decide)) dL_law_979 ?_
  refine lv_topi (fun a1 ea1 => ?_)
  refine lv_i2l (v := a1.toInt64) hx hb dL_law_980 (by first | rfl | decide) ?_
  refine lv_ldc2 hx hb hown (htl _ ct_RL_127) dL_law_981 ?_
  refine lv_land hx hb dL_law_984 ?_
  refine lv_lor hx hb dL_law_985 ?_
  refine lv_topl (fun g2 eg2 => ?_)
  refine lv_aload_n hx hb dL_law_986 rfl (lv_at hl 0 rfl) ?_
  refine lv_iload_n hx hb dL_law_987 rfl (lv_at hl 3 rfl) ?_
  refine lv_iconst (v := 3) hx hb dL_law_988 (by decide) ?_
  refine lv_iadd hx hb dL_law_989 ?_
  refine lv_topi (fun ix2 ex2 => ?_)
  refine va_sld hx hb hX hbl hbA hS (ix_in hi0 hi1 hL ex2 (by decide) (by decide)) dL_law_990 ?_
  refine lv_topi (fun a2 ea2 => ?_)
  refine cx_gangs l C0 hA hN hK hxe hZ g2 a2 hCX hP hD hS hl.1 hf (fun r wx H locs hans hCX hP hD hS => ?_)
  refine lv_pop hx hb dL_law_994 rfl ?_
  refine lv_aload_n hx hb dL_law_995 rfl (lv_at hl 2 rfl) ?_
  refine lv_aload_n hx hb dL_law_996 rfl (lv_at hl 0 rfl) ?_
  refine lv_iload_n hx hb dL_law_997 rfl (lv_at hl 3 rfl) ?_
  refine lv_iconst (v := 1) hx hb dL_law_998 (by decide) ?_
  refine lv_iadd hx hb dL_law_999 ?_
  refine lv_topi (fun ix3 ex3 => ?_)
  refine va_sld hx hb hX hbl hbA hS (ix_in hi0 hi1 hL ex3 (by decide) (by decide)) dL_law_1000 ?_
  refine lv_topi (fun a3 ea3 => ?_)
  refine lv_i2l (v := a3.toInt64) hx hb dL_law_1001 (by first | rfl | decide) ?_
  refine lv_bipush (v := 32) hx hb dL_law_1002 (by decide) ?_
  refine lv_lshl (v := (a3.toInt64 <<< ((32 : Int32).toInt64 &&& 63))) hx hb dL_law_1004 (by first | rfl | decide) ?_
  refine lv_aload_n hx hb dL_law_1005 rfl (lv_at hl 0 rfl) ?_
  refine lv_iload_n hx hb dL_law_1006 rfl (lv_at hl 3 rfl) ?_
  refine lv_iconst (v := 2) hx hb dL_law_1007 (by decide) ?_
  refine lv_iadd hx hb dL_law_1008 ?_
  refine lv_topi (fun ix4 ex4 => ?_)
  refine va_sld hx hb hX hbl hbA hS (ix_in hi0 hi1 hL ex4 (by decide) (by decide)) dL_law_1009 ?_
  refine lv_topi (fun a4 ea4 => ?_)
  refine lv_i2l (v := a4.toInt64) hx hb dL_law_1010 (by first | rfl | decide) ?_
  refine lv_ldc2 hx hb hown (htl _ ct_RL_127) dL_law_1011 ?_
  refine lv_land hx hb dL_law_1014 ?_
  refine lv_lor hx hb dL_law_1015 ?_
  refine lv_topl (fun g5 eg5 => ?_)
  refine lv_aload_n hx hb dL_law_1016 rfl (lv_at hl 0 rfl) ?_
  refine lv_iload_n hx hb dL_law_1017 rfl (lv_at hl 3 rfl) ?_
  refine lv_iconst (v := 3) hx hb dL_law_1018 (by decide) ?_
  refine lv_iadd hx hb dL_law_1019 ?_
  refine lv_topi (fun ix5 ex5 => ?_)
  refine va_sld hx hb hX hbl hbA hS (ix_in hi0 hi1 hL ex5 (by decide) (by decide)) dL_law_1020 ?_
  refine lv_topi (fun a5 ea5 => ?_)
  refine cm_gangs l C0 hA hN hK (Nat.le_of_ble_eq_true rfl) g5 a5 hCM (P_perm List.perm_append_comm hP) (D_perm List.perm_append_comm hD) hS hl.1 hf (fun r2 wm H locs hans2 hCM hP hD hS => ?_)
  replace hP := P_perm List.perm_append_comm hP
  replace hD := D_perm List.perm_append_comm hD
  refine lv_pop hx hb dL_law_1024 rfl ?_
  refine lv_goto (tgt := 1456) hx hb dL_law_1025 (by decide) ?_
  refine W.widen (k := cells + 3) (n := slots + 464) (by omega) (by omega) ?_
  exact K _ _ _ _ _ _ _ _ _ _ _ _ _ _ wx wm _ _ ls hCX hCM hP hD hS hl

set_option maxHeartbeats 1000000 in
set_option maxRecDepth 100000 in
theorem lw_c_quiet {p : Program} {e : Env} {s : State} {m : MethodId} {below : List Frame} {meth : Method} {c : Code} (l : Launch) {sb L : Nat} {xs : Nat → Int32} {A : Nat → Prop} (C0 : lw_At p s m meth c sb L xs) (hL : L ≤ 3072) (hA : ∀ q, s.heap.size ≤ q → A q) (hbA : ¬ A sb) {G : va_G} {cs : Nat → ClassId} {xe : XE} (hN : NW s) (hK : va_K G vwCl (tyL cs) s) (hxe : isRf xe.2.2) (hZ : XZ xe A s) {Q : State → Prop} {h0 m0 : Nat} {cells slots : Nat} (hf : cells ≤ 580000 ∧ slots ≤ 7290000) {i : Int32} (hi0 : 0 ≤ i.toInt) (hi1 : i.toInt + 6 ≤ (L : Int)) (K : ∀ (kx : Nat → Int32) (lx : Int32) (tx : Nat → Int32) (zw : Nat → Int) (zU : UL) (zl : Nat → List Cls) (zWI : Nat → Nat → Int) (zLI : Nat → Nat → List Cls) (zft : Int) (zsp : Int) (zmd : Int) (zla : Int) (zrf : Nat → Int32) (zD : ODr) (wx wm : va_W) (H : Heap) (locs : List Loc) (ls : Array Slot), CX cs h0 kx lx tx zw zU zl zWI zLI zft zsp zmd zla zrf zD wx → CM cs m0 kx lx tx zw zU zl zWI zLI zft zsp zmd zla zrf zD wm → va_P G vwCl (wx ++ wm) H → va_D A (wx ++ wm) → va_S A s.heap H locs → lv_has ls 4 [(0, Value.ref sb), (1, Value.ref h0), (2, Value.ref m0), (3, Value.int i)] → W p l e room_1 s m #[Value.ref sb] below meth c H locs (cells + 3) (slots + 464) Q (F0 m 1456 ls [])) {kx : Nat → Int32} {lx : Int32} {tx : Nat → Int32} {zw : Nat → Int} {zU : UL} {zl : Nat → List Cls} {zWI : Nat → Nat → Int} {zLI : Nat → Nat → List Cls} {zft : Int} {zsp : Int} {zmd : Int} {zla : Int} {zrf : Nat → Int32} {zD : ODr} {wx wm : va_W} {H : Heap} {locs : List Loc} {ls : Array Slot} (hCX : CX cs h0 kx lx tx zw zU zl zWI zLI zft zsp zmd zla zrf zD wx) (hCM : CM cs m0 kx lx tx zw zU zl zWI zLI zft zsp zmd zla zrf zD wm) (hP : va_P G vwCl (wx ++ wm) H) (hD : va_D A (wx ++ wm)) (hS : va_S A s.heap H locs) (hl : lv_has ls 4 [(0, Value.ref sb), (1, Value.ref h0), (2, Value.ref m0), (3, Value.int i)]) : W p l e room_1 s m #[Value.ref sb] below meth c H locs cells slots Q (F0 m 1028 ls []) := by
  obtain ⟨hx, hb, hr, hml, hown, hts, hX, hbl, hlocks, hgv⟩ := id C0
  have hb : c.code = cL_law := hb
  have hown : s.vm.findClass RL = some m.cls := hown
  have htl := gW_l hts
  have hf : cells ≤ 590000 ∧ slots ≤ 7300000 := (by first | with_reducible assumption | exact ⟨by omega, by omega⟩)
  refine lv_aload_n hx hb dL_law_1028 rfl (lv_at hl 1 rfl) ?_
  refine lv_aload_n hx hb dL_law_1029 rfl (lv_at hl 0 rfl) ?_
  refine lv_iload_n hx hb dL_law_1030 rfl (lv_at hl 3 rfl) ?_
  refine lv_iconst (v := 1) hx hb dL_law_1031 (by decide) ?_
  refine lv_iadd hx hb dL_law_1032 ?_
  refine lv_topi (fun ix0 ex0 => ?_)
  refine va_sld hx hb hX hbl hbA hS (ix_in hi0 hi1 hL ex0 (by decide) (by decide)) dL_law_1033 ?_
  refine lv_topi (fun a0 ea0 => ?_)
  refine lv_aload_n hx hb dL_law_1034 rfl (lv_at hl 0 rfl) ?_
  refine lv_iload_n hx hb dL_law_1035 rfl (lv_at hl 3 rfl) ?_
  refine lv_iconst (v := 2) hx hb dL_law_1036 (by decide) ?_
  refine lv_iadd hx hb dL_law_1037 ?_
  refine lv_topi (fun ix1 ex1 => ?_)
  refine va_sld hx hb hX hbl hbA hS (ix_in hi0 hi1 hL ex1 (by decide) (by decide)) dL_law_1038 ?_
  refine lv_topi (fun a1 ea1 => ?_)
  refine lv_aload_n hx hb dL_law_1039 rfl (lv_at hl 0 rfl) ?_
  refine lv_iload_n hx hb dL_law_1040 rfl (lv_at hl 3 rfl) ?_
  refine lv_iconst (v := 3) hx hb dL_law_1041 (by decide) ?_
  refine lv_iadd hx hb dL_law_1042 ?_
  refine lv_topi (fun ix2 ex2 => ?_)
  refine va_sld hx hb hX hbl hbA hS (ix_in hi0 hi1 hL ex2 (by decide) (by decide)) dL_law_1043 ?_
  refine lv_topi (fun a2 ea2 => ?_)
  refine cx_quiet l C0 hA hN hK hxe hZ a0 a1 a2 hCX hP hD hS hl.1 hf (fun r wx H locs hans hCX hP hD hS => ?_)
  refine lv_pop hx hb dL_law_1047 rfl ?_
  refine lv_aload_n hx hb dL_law_1048 rfl (lv_at hl 2 rfl) ?_
  refine lv_aload_n hx hb dL_law_1049 rfl (lv_at hl 0 rfl) ?_
  refine lv_iload_n hx hb dL_law_1050 rfl (lv_at hl 3 rfl) ?_
  refine lv_iconst (v := 1) hx hb dL_law_1051 (by decide) ?_
  refine lv_iadd hx hb dL_law_1052 ?_
  refine lv_topi (fun ix3 ex3 => ?_)
  refine va_sld hx hb hX hbl hbA hS (ix_in hi0 hi1 hL ex3 (by decide) (by decide)) dL_law_1053 ?_
  refine lv_topi (fun a3 ea3 => ?_)
  refine lv_aload_n hx hb dL_law_1054 rfl (lv_at hl 0 rfl) ?_
  refine lv_iload_n hx hb dL_law_1055 rfl (lv_at hl 3 rfl) ?_
  refine lv_iconst (v := 2) hx hb dL_law_1056 (by decide) ?_
  refine lv_iadd hx hb dL_law_1057 ?_
  refine lv_topi (fun ix4 ex4 => ?_)
  refine va_sld hx hb hX hbl hbA hS (ix_in hi0 hi1 hL ex4 (by decide) (by decide)) dL_law_1058 ?_
  refine lv_topi (fun a4 ea4 => ?_)
  refine lv_aload_n hx hb dL_law_1059 rfl (lv_at hl 0 rfl) ?_
  refine lv_iload_n hx hb dL_law_1060 rfl (lv_at hl 3 rfl) ?_
  refine lv_iconst (v := 3) hx hb dL_law_1061 (by decide) ?_
  refine lv_iadd hx hb dL_law_1062 ?_
  refine lv_topi (fun ix5 ex5 => ?_)
  refine va_sld hx hb hX hbl hbA hS (ix_in hi0 hi1 hL ex5 (by decide) (by decide)) dL_law_1063 ?_
  refine lv_topi (fun a5 ea5 => ?_)
  have e_a3 : a3 = a0 := ea3.trans (by rw [ex3, ← ex0]; exact ea0.symm)
  rw [e_a3]
  have e_a4 : a4 = a1 := ea4.trans (by rw [ex4, ← ex1]; exact ea1.symm)
  rw [e_a4]
  have e_a5 : a5 = a2 := ea5.trans (by rw [ex5, ← ex2]; exact ea2.symm)
  rw [e_a5]
  refine cm_quiet l C0 hA hN hK (Nat.le_of_ble_eq_true rfl) a0 a1 a2 hCM (P_perm List.perm_append_comm hP) (D_perm List.perm_append_comm hD) hS hl.1 hf (fun r2 wm H locs hans2 hCM hP hD hS => ?_)
  replace hP := P_perm List.perm_append_comm hP
  replace hD := D_perm List.perm_append_comm hD
  refine lv_pop hx hb dL_law_1067 rfl ?_
  refine lv_goto (tgt := 1456) hx hb dL_law_1068 (by decide) ?_
  refine W.widen (k := cells + 3) (n := slots + 464) (by omega) (by omega) ?_
  exact K _ _ _ _ _ _ _ _ _ _ _ _ _ _ wx wm _ _ ls hCX hCM hP hD hS hl

set_option maxHeartbeats 1000000 in
set_option maxRecDepth 100000 in
theorem lw_c_heard {p : Program} {e : Env} {s : State} {m : MethodId} {below : List Frame} {meth : Method} {c : Code} (l : Launch) {sb L : Nat} {xs : Nat → Int32} {A : Nat → Prop} (C0 : lw_At p s m meth c sb L xs) (hL : L ≤ 3072) (hA : ∀ q, s.heap.size ≤ q → A q) (hbA : ¬ A sb) {G : va_G} {cs : Nat → ClassId} {xe : XE} (hN : NW s) (hK : va_K G vwCl (tyL cs) s) (hxe : isRf xe.2.2) (hZ : XZ xe A s) {Q : State → Prop} {h0 m0 : Nat} {cells slots : Nat} (hf : cells ≤ 580000 ∧ slots ≤ 7290000) {i : Int32} (hi0 : 0 ≤ i.toInt) (hi1 : i.toInt + 6 ≤ (L : Int)) (K : ∀ (kx : Nat → Int32) (lx : Int32) (tx : Nat → Int32) (zw : Nat → Int) (zU : UL) (zl : Nat → List Cls) (zWI : Nat → Nat → Int) (zLI : Nat → Nat → List Cls) (zft : Int) (zsp : Int) (zmd : Int) (zla : Int) (zrf : Nat → Int32) (zD : ODr) (wx wm : va_W) (H : Heap) (locs : List Loc) (ls : Array Slot), CX cs h0 kx lx tx zw zU zl zWI zLI zft zsp zmd zla zrf zD wx → CM cs m0 kx lx tx zw zU zl zWI zLI zft zsp zmd zla zrf zD wm → va_P G vwCl (wx ++ wm) H → va_D A (wx ++ wm) → va_S A s.heap H locs → lv_has ls 4 [(0, Value.ref sb), (1, Value.ref h0), (2, Value.ref m0), (3, Value.int i)] → W p l e room_1 s m #[Value.ref sb] below meth c H locs (cells + 3) (slots + 464) Q (F0 m 1456 ls [])) {kx : Nat → Int32} {lx : Int32} {tx : Nat → Int32} {zw : Nat → Int} {zU : UL} {zl : Nat → List Cls} {zWI : Nat → Nat → Int} {zLI : Nat → Nat → List Cls} {zft : Int} {zsp : Int} {zmd : Int} {zla : Int} {zrf : Nat → Int32} {zD : ODr} {wx wm : va_W} {H : Heap} {locs : List Loc} {ls : Array Slot} (hCX : CX cs h0 kx lx tx zw zU zl zWI zLI zft zsp zmd zla zrf zD wx) (hCM : CM cs m0 kx lx tx zw zU zl zWI zLI zft zsp zmd zla zrf zD wm) (hP : va_P G vwCl (wx ++ wm) H) (hD : va_D A (wx ++ wm)) (hS : va_S A s.heap H locs) (hl : lv_has ls 4 [(0, Value.ref sb), (1, Value.ref h0), (2, Value.ref m0), (3, Value.int i)]) : W p l e room_1 s m #[Value.ref sb] below meth c H locs cells slots Q (F0 m 1071 ls []) := by
  obtain ⟨hx, hb, hr, hml, hown, hts, hX, hbl, hlocks, hgv⟩ := id C0
  have hb : c.code = cL_law := hb
  have hown : s.vm.findClass RL = some m.cls := hown
  have htl := gW_l hts
  have hf : cells ≤ 590000 ∧ slots ≤ 7300000 := (by first | with_reducible assumption | exact ⟨by omega, by omega⟩)
  refine lv_aload_n hx hb dL_law_1071 rfl (lv_at hl 1 rfl) ?_
  refine lv_aload_n hx hb dL_law_1072 rfl (lv_at hl 0 rfl) ?_
  refine lv_iload_n hx hb dL_law_1073 rfl (lv_at hl 3 rfl) ?_
  refine lv_iconst (v := 1) hx hb dL_law_1074 (by decide) ?_
  refine lv_iadd hx hb dL_law_1075 ?_
  refine lv_topi (fun ix0 ex0 => ?_)
  refine va_sld hx hb hX hbl hbA hS (ix_in hi0 hi1 hL ex0 (by decide) (by decide)) dL_law_1076 ?_
  refine lv_topi (fun a0 ea0 => ?_)
  refine lv_aload_n hx hb dL_law_1077 rfl (lv_at hl 0 rfl) ?_
  refine lv_iload_n hx hb dL_law_1078 rfl (lv_at hl 3 rfl) ?_
  refine lv_iconst (v := 2) hx hb dL_law_1079 (by decide) ?_
  refine lv_iadd hx hb dL_law_1080 ?_
  refine lv_topi (fun ix1 ex1 => ?_)
  refine va_sld hx hb hX hbl hbA hS (ix_in hi0 hi1 hL ex1 (by decide) (by decide)) dL_law_1081 ?_
  refine lv_topi (fun a1 ea1 => ?_)
  refine cx_heard l C0 hA hN hK hxe hZ a0 a1 hCX hP hD hS hl.1 hf (fun r wx H locs hans hCX hP hD hS => ?_)
  refine lv_pop hx hb dL_law_1085 rfl ?_
  refine lv_aload_n hx hb dL_law_1086 rfl (lv_at hl 2 rfl) ?_
  refine lv_aload_n hx hb dL_law_1087 rfl (lv_at hl 0 rfl) ?_
  refine lv_iload_n hx hb dL_law_1088 rfl (lv_at hl 3 rfl) ?_
  refine lv_iconst (v := 1) hx hb dL_law_1089 (by decide) ?_
  refine lv_iadd hx hb dL_law_1090 ?_
  refine lv_topi (fun ix2 ex2 => ?_)
  refine va_sld hx hb hX hbl hbA hS (ix_in hi0 hi1 hL ex2 (by decide) (by decide)) dL_law_1091 ?_
  refine lv_topi (fun a2 ea2 => ?_)
  refine lv_aload_n hx hb dL_law_1092 rfl (lv_at hl 0 rfl) ?_
  refine lv_iload_n hx hb dL_law_1093 rfl (lv_at hl 3 rfl) ?_
  refine lv_iconst (v := 2) hx hb dL_law_1094 (by decide) ?_
  refine lv_iadd hx hb dL_law_1095 ?_
  refine lv_topi (fun ix3 ex3 => ?_)
  refine va_sld hx hb hX hbl hbA hS (ix_in hi0 hi1 hL ex3 (by decide) (by decide)) dL_law_1096 ?_
  refine lv_topi (fun a3 ea3 => ?_)
  have e_a2 : a2 = a0 := ea2.trans (by rw [ex2, ← ex0]; exact ea0.symm)
  rw [e_a2]
  have e_a3 : a3 = a1 := ea3.trans (by rw [ex3, ← ex1]; exact ea1.symm)
  rw [e_a3]
  refine cm_heard l C0 hA hN hK (Nat.le_of_ble_eq_true rfl) a0 a1 hCM (P_perm List.perm_append_comm hP) (D_perm List.perm_append_comm hD) hS hl.1 hf (fun r2 wm H locs hans2 hCM hP hD hS => ?_)
  replace hP := P_perm List.perm_append_comm hP
  replace hD := D_perm List.perm_append_comm hD
  refine lv_pop hx hb dL_law_1100 rfl ?_
  refine lv_goto (tgt := 1456) hx hb dL_law_1101 (by decide) ?_
  refine W.widen (k := cells + 3) (n := slots + 464) (by omega) (by omega) ?_
  exact K _ _ _ _ _ _ _ _ _ _ _ _ _ _ wx wm _ _ ls hCX hCM hP hD hS hl

set_option maxHeartbeats 1000000 in
set_option maxRecDepth 100000 in
theorem lw_c_forget {p : Program} {e : Env} {s : State} {m : MethodId} {below : List Frame} {meth : Method} {c : Code} (l : Launch) {sb L : Nat} {xs : Nat → Int32} {A : Nat → Prop} (C0 : lw_At p s m meth c sb L xs) (hL : L ≤ 3072) (hA : ∀ q, s.heap.size ≤ q → A q) (hbA : ¬ A sb) {G : va_G} {cs : Nat → ClassId} {xe : XE} (hN : NW s) (hK : va_K G vwCl (tyL cs) s) (hxe : isRf xe.2.2) (hZ : XZ xe A s) {Q : State → Prop} {h0 m0 : Nat} {cells slots : Nat} (hf : cells ≤ 580000 ∧ slots ≤ 7290000) {i : Int32} (hi0 : 0 ≤ i.toInt) (hi1 : i.toInt + 6 ≤ (L : Int)) (K : ∀ (kx : Nat → Int32) (lx : Int32) (tx : Nat → Int32) (zw : Nat → Int) (zU : UL) (zl : Nat → List Cls) (zWI : Nat → Nat → Int) (zLI : Nat → Nat → List Cls) (zft : Int) (zsp : Int) (zmd : Int) (zla : Int) (zrf : Nat → Int32) (zD : ODr) (wx wm : va_W) (H : Heap) (locs : List Loc) (ls : Array Slot), CX cs h0 kx lx tx zw zU zl zWI zLI zft zsp zmd zla zrf zD wx → CM cs m0 kx lx tx zw zU zl zWI zLI zft zsp zmd zla zrf zD wm → va_P G vwCl (wx ++ wm) H → va_D A (wx ++ wm) → va_S A s.heap H locs → lv_has ls 4 [(0, Value.ref sb), (1, Value.ref h0), (2, Value.ref m0), (3, Value.int i)] → W p l e room_1 s m #[Value.ref sb] below meth c H locs (cells + 3) (slots + 464) Q (F0 m 1456 ls [])) {kx : Nat → Int32} {lx : Int32} {tx : Nat → Int32} {zw : Nat → Int} {zU : UL} {zl : Nat → List Cls} {zWI : Nat → Nat → Int} {zLI : Nat → Nat → List Cls} {zft : Int} {zsp : Int} {zmd : Int} {zla : Int} {zrf : Nat → Int32} {zD : ODr} {wx wm : va_W} {H : Heap} {locs : List Loc} {ls : Array Slot} (hCX : CX cs h0 kx lx tx zw zU zl zWI zLI zft zsp zmd zla zrf zD wx) (hCM : CM cs m0 kx lx tx zw zU zl zWI zLI zft zsp zmd zla zrf zD wm) (hP : va_P G vwCl (wx ++ wm) H) (hD : va_D A (wx ++ wm)) (hS : va_S A s.heap H locs) (hl : lv_has ls 4 [(0, Value.ref sb), (1, Value.ref h0), (2, Value.ref m0), (3, Value.int i)]) : W p l e room_1 s m #[Value.ref sb] below meth c H locs cells slots Q (F0 m 1104 ls []) := by
  obtain ⟨hx, hb, hr, hml, hown, hts, hX, hbl, hlocks, hgv⟩ := id C0
  have hb : c.code = cL_law := hb
  have hown : s.vm.findClass RL = some m.cls := hown
  have htl := gW_l hts
  have hf : cells ≤ 590000 ∧ slots ≤ 7300000 := (by first | with_reducible assumption | exact ⟨by omega, by omega⟩)
  refine lv_aload_n hx hb dL_law_1104 rfl (lv_at hl 1 rfl) ?_
  refine cx_forget l C0 hA hN hK hxe hZ  hCX hP hD hS hl.1 hf (fun r wx H locs hans hCX hP hD hS => ?_)
  refine lv_pop hx hb dL_law_1108 rfl ?_
  refine lv_aload_n hx hb dL_law_1109 rfl (lv_at hl 2 rfl) ?_
  refine cm_forget l C0 hA hN hK (Nat.le_of_ble_eq_true rfl)  hCM (P_perm List.perm_append_comm hP) (D_perm List.perm_append_comm hD) hS hl.1 hf (fun r2 wm H locs hans2 hCM hP hD hS => ?_)
  replace hP := P_perm List.perm_append_comm hP
  replace hD := D_perm List.perm_append_comm hD
  refine lv_pop hx hb dL_law_1113 rfl ?_
  refine lv_goto (tgt := 1456) hx hb dL_law_1114 (by decide) ?_
  refine W.widen (k := cells + 3) (n := slots + 464) (by omega) (by omega) ?_
  exact K _ _ _ _ _ _ _ _ _ _ _ _ _ _ wx wm _ _ ls hCX hCM hP hD hS hl

set_option maxHeartbeats 1000000 in
set_option maxRecDepth 100000 in
theorem lw_c_hidden {p : Program} {e : Env} {s : State} {m : MethodId} {below : List Frame} {meth : Method} {c : Code} (l : Launch) {sb L : Nat} {xs : Nat → Int32} {A : Nat → Prop} (C0 : lw_At p s m meth c sb L xs) (hL : L ≤ 3072) (hA : ∀ q, s.heap.size ≤ q → A q) (hbA : ¬ A sb) {G : va_G} {cs : Nat → ClassId} {xe : XE} (hN : NW s) (hK : va_K G vwCl (tyL cs) s) (hxe : isRf xe.2.2) (hZ : XZ xe A s) {Q : State → Prop} {h0 m0 : Nat} {cells slots : Nat} (hf : cells ≤ 580000 ∧ slots ≤ 7290000) {i : Int32} (hi0 : 0 ≤ i.toInt) (hi1 : i.toInt + 6 ≤ (L : Int)) (K : ∀ (kx : Nat → Int32) (lx : Int32) (tx : Nat → Int32) (zw : Nat → Int) (zU : UL) (zl : Nat → List Cls) (zWI : Nat → Nat → Int) (zLI : Nat → Nat → List Cls) (zft : Int) (zsp : Int) (zmd : Int) (zla : Int) (zrf : Nat → Int32) (zD : ODr) (wx wm : va_W) (H : Heap) (locs : List Loc) (ls : Array Slot), CX cs h0 kx lx tx zw zU zl zWI zLI zft zsp zmd zla zrf zD wx → CM cs m0 kx lx tx zw zU zl zWI zLI zft zsp zmd zla zrf zD wm → va_P G vwCl (wx ++ wm) H → va_D A (wx ++ wm) → va_S A s.heap H locs → lv_has ls 4 [(0, Value.ref sb), (1, Value.ref h0), (2, Value.ref m0), (3, Value.int i)] → W p l e room_1 s m #[Value.ref sb] below meth c H locs (cells + 3) (slots + 464) Q (F0 m 1456 ls [])) {kx : Nat → Int32} {lx : Int32} {tx : Nat → Int32} {zw : Nat → Int} {zU : UL} {zl : Nat → List Cls} {zWI : Nat → Nat → Int} {zLI : Nat → Nat → List Cls} {zft : Int} {zsp : Int} {zmd : Int} {zla : Int} {zrf : Nat → Int32} {zD : ODr} {wx wm : va_W} {H : Heap} {locs : List Loc} {ls : Array Slot} (hCX : CX cs h0 kx lx tx zw zU zl zWI zLI zft zsp zmd zla zrf zD wx) (hCM : CM cs m0 kx lx tx zw zU zl zWI zLI zft zsp zmd zla zrf zD wm) (hP : va_P G vwCl (wx ++ wm) H) (hD : va_D A (wx ++ wm)) (hS : va_S A s.heap H locs) (hl : lv_has ls 4 [(0, Value.ref sb), (1, Value.ref h0), (2, Value.ref m0), (3, Value.int i)]) : W p l e room_1 s m #[Value.ref sb] below meth c H locs cells slots Q (F0 m 1117 ls []) := by
  obtain ⟨hx, hb, hr, hml, hown, hts, hX, hbl, hlocks, hgv⟩ := id C0
  have hb : c.code = cL_law := hb
  have hown : s.vm.findClass RL = some m.cls := hown
  have htl := gW_l hts
  have hf : cells ≤ 590000 ∧ slots ≤ 7300000 := (by first | with_reducible assumption | exact ⟨by omega, by omega⟩)
  refine lv_aload_n hx hb dL_law_1117 rfl (lv_at hl 1 rfl) ?_
  refine cx_hidden l C0 hA hN hK hxe hZ  hCX hP hD hS hl.1 hf (fun r wx H locs hans hCX hP hD hS => ?_)
  refine lv_pop2_2 hx hb dL_law_1121 rfl ?_
  refine lv_aload_n hx hb dL_law_1122 rfl (lv_at hl 2 rfl) ?_
  refine cm_hidden l C0 hA hN hK (Nat.le_of_ble_eq_true rfl)  hCM (P_perm List.perm_append_comm hP) (D_perm List.perm_append_comm hD) hS hl.1 hf (fun r2 wm H locs hans2 hCM hP hD hS => ?_)
  replace hP := P_perm List.perm_append_comm hP
  replace hD := D_perm List.perm_append_comm hD
  refine lv_pop2_2 hx hb dL_law_1126 rfl ?_
  refine lv_goto (tgt := 1456) hx hb dL_law_1127 (by decide) ?_
  refine W.widen (k := cells + 3) (n := slots + 464) (by omega) (by omega) ?_
  exact K _ _ _ _ _ _ _ _ _ _ _ _ _ _ wx wm _ _ ls hCX hCM hP hD hS hl

set_option maxHeartbeats 1000000 in
set_option maxRecDepth 100000 in
theorem lw_c_next {p : Program} {e : Env} {s : State} {m : MethodId} {below : List Frame} {meth : Method} {c : Code} (l : Launch) {sb L : Nat} {xs : Nat → Int32} {A : Nat → Prop} (C0 : lw_At p s m meth c sb L xs) (hL : L ≤ 3072) (hA : ∀ q, s.heap.size ≤ q → A q) (hbA : ¬ A sb) {G : va_G} {cs : Nat → ClassId} {xe : XE} (hN : NW s) (hK : va_K G vwCl (tyL cs) s) (hxe : isRf xe.2.2) (hZ : XZ xe A s) {Q : State → Prop} {h0 m0 : Nat} {cells slots : Nat} (hf : cells ≤ 580000 ∧ slots ≤ 7290000) {i : Int32} (hi0 : 0 ≤ i.toInt) (hi1 : i.toInt + 6 ≤ (L : Int)) (K : ∀ (kx : Nat → Int32) (lx : Int32) (tx : Nat → Int32) (zw : Nat → Int) (zU : UL) (zl : Nat → List Cls) (zWI : Nat → Nat → Int) (zLI : Nat → Nat → List Cls) (zft : Int) (zsp : Int) (zmd : Int) (zla : Int) (zrf : Nat → Int32) (zD : ODr) (wx wm : va_W) (H : Heap) (locs : List Loc) (ls : Array Slot), CX cs h0 kx lx tx zw zU zl zWI zLI zft zsp zmd zla zrf zD wx → CM cs m0 kx lx tx zw zU zl zWI zLI zft zsp zmd zla zrf zD wm → va_P G vwCl (wx ++ wm) H → va_D A (wx ++ wm) → va_S A s.heap H locs → lv_has ls 4 [(0, Value.ref sb), (1, Value.ref h0), (2, Value.ref m0), (3, Value.int i)] → W p l e room_1 s m #[Value.ref sb] below meth c H locs (cells + 3) (slots + 464) Q (F0 m 1456 ls [])) {kx : Nat → Int32} {lx : Int32} {tx : Nat → Int32} {zw : Nat → Int} {zU : UL} {zl : Nat → List Cls} {zWI : Nat → Nat → Int} {zLI : Nat → Nat → List Cls} {zft : Int} {zsp : Int} {zmd : Int} {zla : Int} {zrf : Nat → Int32} {zD : ODr} {wx wm : va_W} {H : Heap} {locs : List Loc} {ls : Array Slot} (hCX : CX cs h0 kx lx tx zw zU zl zWI zLI zft zsp zmd zla zrf zD wx) (hCM : CM cs m0 kx lx tx zw zU zl zWI zLI zft zsp zmd zla zrf zD wm) (hP : va_P G vwCl (wx ++ wm) H) (hD : va_D A (wx ++ wm)) (hS : va_S A s.heap H locs) (hl : lv_has ls 4 [(0, Value.ref sb), (1, Value.ref h0), (2, Value.ref m0), (3, Value.int i)]) : W p l e room_1 s m #[Value.ref sb] below meth c H locs cells slots Q (F0 m 1130 ls []) := by
  obtain ⟨hx, hb, hr, hml, hown, hts, hX, hbl, hlocks, hgv⟩ := id C0
  have hb : c.code = cL_law := hb
  have hown : s.vm.findClass RL = some m.cls := hown
  have htl := gW_l hts
  have hf : cells ≤ 590000 ∧ slots ≤ 7300000 := (by first | with_reducible assumption | exact ⟨by omega, by omega⟩)
  refine lv_aload_n hx hb dL_law_1130 rfl (lv_at hl 1 rfl) ?_
  refine lv_aload_n hx hb dL_law_1131 rfl (lv_at hl 0 rfl) ?_
  refine lv_iload_n hx hb dL_law_1132 rfl (lv_at hl 3 rfl) ?_
  refine lv_iconst (v := 1) hx hb dL_law_1133 (by decide) ?_
  refine lv_iadd hx hb dL_law_1134 ?_
  refine lv_topi (fun ix0 ex0 => ?_)
  refine va_sld hx hb hX hbl hbA hS (ix_in hi0 hi1 hL ex0 (by decide) (by decide)) dL_law_1135 ?_
  refine lv_topi (fun a0 ea0 => ?_)
  refine cx_next l C0 hA hN hK hxe hZ a0 hCX hP hD hS hl.1 hf (fun r wx H locs hans hCX hP hD hS => ?_)
  refine lv_pop hx hb dL_law_1139 rfl ?_
  refine lv_aload_n hx hb dL_law_1140 rfl (lv_at hl 2 rfl) ?_
  refine lv_aload_n hx hb dL_law_1141 rfl (lv_at hl 0 rfl) ?_
  refine lv_iload_n hx hb dL_law_1142 rfl (lv_at hl 3 rfl) ?_
  refine lv_iconst (v := 1) hx hb dL_law_1143 (by decide) ?_
  refine lv_iadd hx hb dL_law_1144 ?_
  refine lv_topi (fun ix1 ex1 => ?_)
  refine va_sld hx hb hX hbl hbA hS (ix_in hi0 hi1 hL ex1 (by decide) (by decide)) dL_law_1145 ?_
  refine lv_topi (fun a1 ea1 => ?_)
  have e_a1 : a1 = a0 := ea1.trans (by rw [ex1, ← ex0]; exact ea0.symm)
  rw [e_a1]
  refine cm_next l C0 hA hN hK (Nat.le_of_ble_eq_true rfl) a0 hCM (P_perm List.perm_append_comm hP) (D_perm List.perm_append_comm hD) hS hl.1 hf (fun r2 wm H locs hans2 hCM hP hD hS => ?_)
  replace hP := P_perm List.perm_append_comm hP
  replace hD := D_perm List.perm_append_comm hD
  refine lv_pop hx hb dL_law_1149 rfl ?_
  refine lv_goto (tgt := 1456) hx hb dL_law_1150 (by decide) ?_
  refine W.widen (k := cells + 3) (n := slots + 464) (by omega) (by omega) ?_
  exact K _ _ _ _ _ _ _ _ _ _ _ _ _ _ wx wm _ _ ls hCX hCM hP hD hS hl

set_option maxHeartbeats 1000000 in
set_option maxRecDepth 100000 in
theorem lw_c_well {p : Program} {e : Env} {s : State} {m : MethodId} {below : List Frame} {meth : Method} {c : Code} (l : Launch) {sb L : Nat} {xs : Nat → Int32} {A : Nat → Prop} (C0 : lw_At p s m meth c sb L xs) (hL : L ≤ 3072) (hA : ∀ q, s.heap.size ≤ q → A q) (hbA : ¬ A sb) {G : va_G} {cs : Nat → ClassId} {xe : XE} (hN : NW s) (hK : va_K G vwCl (tyL cs) s) (hxe : isRf xe.2.2) (hZ : XZ xe A s) {Q : State → Prop} {h0 m0 : Nat} {cells slots : Nat} (hf : cells ≤ 580000 ∧ slots ≤ 7290000) {i : Int32} (hi0 : 0 ≤ i.toInt) (hi1 : i.toInt + 6 ≤ (L : Int)) (K : ∀ (kx : Nat → Int32) (lx : Int32) (tx : Nat → Int32) (zw : Nat → Int) (zU : UL) (zl : Nat → List Cls) (zWI : Nat → Nat → Int) (zLI : Nat → Nat → List Cls) (zft : Int) (zsp : Int) (zmd : Int) (zla : Int) (zrf : Nat → Int32) (zD : ODr) (wx wm : va_W) (H : Heap) (locs : List Loc) (ls : Array Slot), CX cs h0 kx lx tx zw zU zl zWI zLI zft zsp zmd zla zrf zD wx → CM cs m0 kx lx tx zw zU zl zWI zLI zft zsp zmd zla zrf zD wm → va_P G vwCl (wx ++ wm) H → va_D A (wx ++ wm) → va_S A s.heap H locs → lv_has ls 4 [(0, Value.ref sb), (1, Value.ref h0), (2, Value.ref m0), (3, Value.int i)] → W p l e room_1 s m #[Value.ref sb] below meth c H locs (cells + 3) (slots + 464) Q (F0 m 1456 ls [])) {kx : Nat → Int32} {lx : Int32} {tx : Nat → Int32} {zw : Nat → Int} {zU : UL} {zl : Nat → List Cls} {zWI : Nat → Nat → Int} {zLI : Nat → Nat → List Cls} {zft : Int} {zsp : Int} {zmd : Int} {zla : Int} {zrf : Nat → Int32} {zD : ODr} {wx wm : va_W} {H : Heap} {locs : List Loc} {ls : Array Slot} (hCX : CX cs h0 kx lx tx zw zU zl zWI zLI zft zsp zmd zla zrf zD wx) (hCM : CM cs m0 kx lx tx zw zU zl zWI zLI zft zsp zmd zla zrf zD wm) (hP : va_P G vwCl (wx ++ wm) H) (hD : va_D A (wx ++ wm)) (hS : va_S A s.heap H locs) (hl : lv_has ls 4 [(0, Value.ref sb), (1, Value.ref h0), (2, Value.ref m0), (3, Value.int i)]) : W p l e room_1 s m #[Value.ref sb] below meth c H locs cells slots Q (F0 m 1153 ls []) := by
  obtain ⟨hx, hb, hr, hml, hown, hts, hX, hbl, hlocks, hgv⟩ := id C0
  have hb : c.code = cL_law := hb
  have hown : s.vm.findClass RL = some m.cls := hown
  have htl := gW_l hts
  have hf : cells ≤ 590000 ∧ slots ≤ 7300000 := (by first | with_reducible assumption | exact ⟨by omega, by omega⟩)
  refine lv_aload_n hx hb dL_law_1153 rfl (lv_at hl 1 rfl) ?_
  refine lv_aload_n hx hb dL_law_1154 rfl (lv_at hl 0 rfl) ?_
  refine lv_iload_n hx hb dL_law_1155 rfl (lv_at hl 3 rfl) ?_
  refine lv_iconst (v := 1) hx hb dL_law_1156 (by decide) ?_
  refine lv_iadd hx hb dL_law_1157 ?_
  refine lv_topi (fun ix0 ex0 => ?_)
  refine va_sld hx hb hX hbl hbA hS (ix_in hi0 hi1 hL ex0 (by decide) (by decide)) dL_law_1158 ?_
  refine lv_topi (fun a0 ea0 => ?_)
  refine lv_aload_n hx hb dL_law_1159 rfl (lv_at hl 0 rfl) ?_
  refine lv_iload_n hx hb dL_law_1160 rfl (lv_at hl 3 rfl) ?_
  refine lv_iconst (v := 2) hx hb dL_law_1161 (by decide) ?_
  refine lv_iadd hx hb dL_law_1162 ?_
  refine lv_topi (fun ix1 ex1 => ?_)
  refine va_sld hx hb hX hbl hbA hS (ix_in hi0 hi1 hL ex1 (by decide) (by decide)) dL_law_1163 ?_
  refine lv_topi (fun a1 ea1 => ?_)
  refine cx_well l C0 hA hN hK hxe hZ a0 a1 hCX hP hD hS hl.1 hf (fun r wx H locs hans hCX hP hD hS => ?_)
  refine lv_pop hx hb dL_law_1167 rfl ?_
  refine lv_aload_n hx hb dL_law_1168 rfl (lv_at hl 2 rfl) ?_
  refine lv_aload_n hx hb dL_law_1169 rfl (lv_at hl 0 rfl) ?_
  refine lv_iload_n hx hb dL_law_1170 rfl (lv_at hl 3 rfl) ?_
  refine lv_iconst (v := 1) hx hb dL_law_1171 (by decide) ?_
  refine lv_iadd hx hb dL_law_1172 ?_
  refine lv_topi (fun ix2 ex2 => ?_)
  refine va_sld hx hb hX hbl hbA hS (ix_in hi0 hi1 hL ex2 (by decide) (by decide)) dL_law_1173 ?_
  refine lv_topi (fun a2 ea2 => ?_)
  refine lv_aload_n hx hb dL_law_1174 rfl (lv_at hl 0 rfl) ?_
  refine lv_iload_n hx hb dL_law_1175 rfl (lv_at hl 3 rfl) ?_
  refine lv_iconst (v := 2) hx hb dL_law_1176 (by decide) ?_
  refine lv_iadd hx hb dL_law_1177 ?_
  refine lv_topi (fun ix3 ex3 => ?_)
  refine va_sld hx hb hX hbl hbA hS (ix_in hi0 hi1 hL ex3 (by decide) (by decide)) dL_law_1178 ?_
  refine lv_topi (fun a3 ea3 => ?_)
  have e_a2 : a2 = a0 := ea2.trans (by rw [ex2, ← ex0]; exact ea0.symm)
  rw [e_a2]
  have e_a3 : a3 = a1 := ea3.trans (by rw [ex3, ← ex1]; exact ea1.symm)
  rw [e_a3]
  refine cm_well l C0 hA hN hK (Nat.le_of_ble_eq_true rfl) a0 a1 hCM (P_perm List.perm_append_comm hP) (D_perm List.perm_append_comm hD) hS hl.1 hf (fun r2 wm H locs hans2 hCM hP hD hS => ?_)
  replace hP := P_perm List.perm_append_comm hP
  replace hD := D_perm List.perm_append_comm hD
  refine lv_pop hx hb dL_law_1182 rfl ?_
  refine lv_goto (tgt := 1456) hx hb dL_law_1183 (by decide) ?_
  refine W.widen (k := cells + 3) (n := slots + 464) (by omega) (by omega) ?_
  exact K _ _ _ _ _ _ _ _ _ _ _ _ _ _ wx wm _ _ ls hCX hCM hP hD hS hl

set_option maxHeartbeats 1000000 in
set_option maxRecDepth 100000 in
theorem lw_c_tongue {p : Program} {e : Env} {s : State} {m : MethodId} {below : List Frame} {meth : Method} {c : Code} (l : Launch) {sb L : Nat} {xs : Nat → Int32} {A : Nat → Prop} (C0 : lw_At p s m meth c sb L xs) (hL : L ≤ 3072) (hA : ∀ q, s.heap.size ≤ q → A q) (hbA : ¬ A sb) {G : va_G} {cs : Nat → ClassId} {xe : XE} (hN : NW s) (hK : va_K G vwCl (tyL cs) s) (hxe : isRf xe.2.2) (hZ : XZ xe A s) {Q : State → Prop} {h0 m0 : Nat} {cells slots : Nat} (hf : cells ≤ 580000 ∧ slots ≤ 7290000) {i : Int32} (hi0 : 0 ≤ i.toInt) (hi1 : i.toInt + 6 ≤ (L : Int)) (K : ∀ (kx : Nat → Int32) (lx : Int32) (tx : Nat → Int32) (zw : Nat → Int) (zU : UL) (zl : Nat → List Cls) (zWI : Nat → Nat → Int) (zLI : Nat → Nat → List Cls) (zft : Int) (zsp : Int) (zmd : Int) (zla : Int) (zrf : Nat → Int32) (zD : ODr) (wx wm : va_W) (H : Heap) (locs : List Loc) (ls : Array Slot), CX cs h0 kx lx tx zw zU zl zWI zLI zft zsp zmd zla zrf zD wx → CM cs m0 kx lx tx zw zU zl zWI zLI zft zsp zmd zla zrf zD wm → va_P G vwCl (wx ++ wm) H → va_D A (wx ++ wm) → va_S A s.heap H locs → lv_has ls 4 [(0, Value.ref sb), (1, Value.ref h0), (2, Value.ref m0), (3, Value.int i)] → W p l e room_1 s m #[Value.ref sb] below meth c H locs (cells + 3) (slots + 464) Q (F0 m 1456 ls [])) {kx : Nat → Int32} {lx : Int32} {tx : Nat → Int32} {zw : Nat → Int} {zU : UL} {zl : Nat → List Cls} {zWI : Nat → Nat → Int} {zLI : Nat → Nat → List Cls} {zft : Int} {zsp : Int} {zmd : Int} {zla : Int} {zrf : Nat → Int32} {zD : ODr} {wx wm : va_W} {H : Heap} {locs : List Loc} {ls : Array Slot} (hCX : CX cs h0 kx lx tx zw zU zl zWI zLI zft zsp zmd zla zrf zD wx) (hCM : CM cs m0 kx lx tx zw zU zl zWI zLI zft zsp zmd zla zrf zD wm) (hP : va_P G vwCl (wx ++ wm) H) (hD : va_D A (wx ++ wm)) (hS : va_S A s.heap H locs) (hl : lv_has ls 4 [(0, Value.ref sb), (1, Value.ref h0), (2, Value.ref m0), (3, Value.int i)]) : W p l e room_1 s m #[Value.ref sb] below meth c H locs cells slots Q (F0 m 1186 ls []) := by
  obtain ⟨hx, hb, hr, hml, hown, hts, hX, hbl, hlocks, hgv⟩ := id C0
  have hb : c.code = cL_law := hb
  have hown : s.vm.findClass RL = some m.cls := hown
  have htl := gW_l hts
  have hf : cells ≤ 590000 ∧ slots ≤ 7300000 := (by first | with_reducible assumption | exact ⟨by omega, by omega⟩)
  refine lv_aload_n hx hb dL_law_1186 rfl (lv_at hl 1 rfl) ?_
  refine lv_aload_n hx hb dL_law_1187 rfl (lv_at hl 0 rfl) ?_
  refine lv_iload_n hx hb dL_law_1188 rfl (lv_at hl 3 rfl) ?_
  refine lv_iconst (v := 1) hx hb dL_law_1189 (by decide) ?_
  refine lv_iadd hx hb dL_law_1190 ?_
  refine lv_topi (fun ix0 ex0 => ?_)
  refine va_sld hx hb hX hbl hbA hS (ix_in hi0 hi1 hL ex0 (by decide) (by decide)) dL_law_1191 ?_
  refine lv_topi (fun a0 ea0 => ?_)
  refine cx_tongue l C0 hA hN hK hxe hZ a0 hCX hP hD hS hl.1 hf (fun r wx H locs hans hCX hP hD hS => ?_)
  refine lv_pop hx hb dL_law_1195 rfl ?_
  refine lv_aload_n hx hb dL_law_1196 rfl (lv_at hl 2 rfl) ?_
  refine lv_aload_n hx hb dL_law_1197 rfl (lv_at hl 0 rfl) ?_
  refine lv_iload_n hx hb dL_law_1198 rfl (lv_at hl 3 rfl) ?_
  refine lv_iconst (v := 1) hx hb dL_law_1199 (by decide) ?_
  refine lv_iadd hx hb dL_law_1200 ?_
  refine lv_topi (fun ix1 ex1 => ?_)
  refine va_sld hx hb hX hbl hbA hS (ix_in hi0 hi1 hL ex1 (by decide) (by decide)) dL_law_1201 ?_
  refine lv_topi (fun a1 ea1 => ?_)
  have e_a1 : a1 = a0 := ea1.trans (by rw [ex1, ← ex0]; exact ea0.symm)
  rw [e_a1]
  refine cm_tongue l C0 hA hN hK (Nat.le_of_ble_eq_true rfl) a0 hCM (P_perm List.perm_append_comm hP) (D_perm List.perm_append_comm hD) hS hl.1 hf (fun r2 wm H locs hans2 hCM hP hD hS => ?_)
  replace hP := P_perm List.perm_append_comm hP
  replace hD := D_perm List.perm_append_comm hD
  refine lv_pop hx hb dL_law_1205 rfl ?_
  refine lv_goto (tgt := 1456) hx hb dL_law_1206 (by decide) ?_
  refine W.widen (k := cells + 3) (n := slots + 464) (by omega) (by omega) ?_
  exact K _ _ _ _ _ _ _ _ _ _ _ _ _ _ wx wm _ _ ls hCX hCM hP hD hS hl

set_option maxHeartbeats 1000000 in
set_option maxRecDepth 100000 in
theorem lw_c_vein {p : Program} {e : Env} {s : State} {m : MethodId} {below : List Frame} {meth : Method} {c : Code} (l : Launch) {sb L : Nat} {xs : Nat → Int32} {A : Nat → Prop} (C0 : lw_At p s m meth c sb L xs) (hL : L ≤ 3072) (hA : ∀ q, s.heap.size ≤ q → A q) (hbA : ¬ A sb) {G : va_G} {cs : Nat → ClassId} {xe : XE} (hN : NW s) (hK : va_K G vwCl (tyL cs) s) (hxe : isRf xe.2.2) (hZ : XZ xe A s) {Q : State → Prop} {h0 m0 : Nat} {cells slots : Nat} (hf : cells ≤ 580000 ∧ slots ≤ 7290000) {i : Int32} (hi0 : 0 ≤ i.toInt) (hi1 : i.toInt + 6 ≤ (L : Int)) (K : ∀ (kx : Nat → Int32) (lx : Int32) (tx : Nat → Int32) (zw : Nat → Int) (zU : UL) (zl : Nat → List Cls) (zWI : Nat → Nat → Int) (zLI : Nat → Nat → List Cls) (zft : Int) (zsp : Int) (zmd : Int) (zla : Int) (zrf : Nat → Int32) (zD : ODr) (wx wm : va_W) (H : Heap) (locs : List Loc) (ls : Array Slot), CX cs h0 kx lx tx zw zU zl zWI zLI zft zsp zmd zla zrf zD wx → CM cs m0 kx lx tx zw zU zl zWI zLI zft zsp zmd zla zrf zD wm → va_P G vwCl (wx ++ wm) H → va_D A (wx ++ wm) → va_S A s.heap H locs → lv_has ls 4 [(0, Value.ref sb), (1, Value.ref h0), (2, Value.ref m0), (3, Value.int i)] → W p l e room_1 s m #[Value.ref sb] below meth c H locs (cells + 3) (slots + 464) Q (F0 m 1456 ls [])) {kx : Nat → Int32} {lx : Int32} {tx : Nat → Int32} {zw : Nat → Int} {zU : UL} {zl : Nat → List Cls} {zWI : Nat → Nat → Int} {zLI : Nat → Nat → List Cls} {zft : Int} {zsp : Int} {zmd : Int} {zla : Int} {zrf : Nat → Int32} {zD : ODr} {wx wm : va_W} {H : Heap} {locs : List Loc} {ls : Array Slot} (hCX : CX cs h0 kx lx tx zw zU zl zWI zLI zft zsp zmd zla zrf zD wx) (hCM : CM cs m0 kx lx tx zw zU zl zWI zLI zft zsp zmd zla zrf zD wm) (hP : va_P G vwCl (wx ++ wm) H) (hD : va_D A (wx ++ wm)) (hS : va_S A s.heap H locs) (hl : lv_has ls 4 [(0, Value.ref sb), (1, Value.ref h0), (2, Value.ref m0), (3, Value.int i)]) : W p l e room_1 s m #[Value.ref sb] below meth c H locs cells slots Q (F0 m 1209 ls []) := by
  obtain ⟨hx, hb, hr, hml, hown, hts, hX, hbl, hlocks, hgv⟩ := id C0
  have hb : c.code = cL_law := hb
  have hown : s.vm.findClass RL = some m.cls := hown
  have htl := gW_l hts
  have hf : cells ≤ 590000 ∧ slots ≤ 7300000 := (by first | with_reducible assumption | exact ⟨by omega, by omega⟩)
  refine lv_aload_n hx hb dL_law_1209 rfl (lv_at hl 1 rfl) ?_
  refine lv_aload_n hx hb dL_law_1210 rfl (lv_at hl 0 rfl) ?_
  refine lv_iload_n hx hb dL_law_1211 rfl (lv_at hl 3 rfl) ?_
  refine lv_iconst (v := 1) hx hb dL_law_1212 (by decide) ?_
  refine lv_iadd hx hb dL_law_1213 ?_
  refine lv_topi (fun ix0 ex0 => ?_)
  refine va_sld hx hb hX hbl hbA hS (ix_in hi0 hi1 hL ex0 (by decide) (by decide)) dL_law_1214 ?_
  refine lv_topi (fun a0 ea0 => ?_)
  refine lv_aload_n hx hb dL_law_1215 rfl (lv_at hl 0 rfl) ?_
  refine lv_iload_n hx hb dL_law_1216 rfl (lv_at hl 3 rfl) ?_
  refine lv_iconst (v := 2) hx hb dL_law_1217 (by decide) ?_
  refine lv_iadd hx hb dL_law_1218 ?_
  refine lv_topi (fun ix1 ex1 => ?_)
  refine va_sld hx hb hX hbl hbA hS (ix_in hi0 hi1 hL ex1 (by decide) (by decide)) dL_law_1219 ?_
  refine lv_topi (fun a1 ea1 => ?_)
  refine cx_vein l C0 hA hN hK hxe hZ a0 a1 hCX hP hD hS hl.1 hf (fun r wx H locs hans hCX hP hD hS => ?_)
  refine lv_pop2_2 hx hb dL_law_1223 rfl ?_
  refine lv_aload_n hx hb dL_law_1224 rfl (lv_at hl 2 rfl) ?_
  refine lv_aload_n hx hb dL_law_1225 rfl (lv_at hl 0 rfl) ?_
  refine lv_iload_n hx hb dL_law_1226 rfl (lv_at hl 3 rfl) ?_
  refine lv_iconst (v := 1) hx hb dL_law_1227 (by decide) ?_
  refine lv_iadd hx hb dL_law_1228 ?_
  refine lv_topi (fun ix2 ex2 => ?_)
  refine va_sld hx hb hX hbl hbA hS (ix_in hi0 hi1 hL ex2 (by decide) (by decide)) dL_law_1229 ?_
  refine lv_topi (fun a2 ea2 => ?_)
  refine lv_aload_n hx hb dL_law_1230 rfl (lv_at hl 0 rfl) ?_
  refine lv_iload_n hx hb dL_law_1231 rfl (lv_at hl 3 rfl) ?_
  refine lv_iconst (v := 2) hx hb dL_law_1232 (by decide) ?_
  refine lv_iadd hx hb dL_law_1233 ?_
  refine lv_topi (fun ix3 ex3 => ?_)
  refine va_sld hx hb hX hbl hbA hS (ix_in hi0 hi1 hL ex3 (by decide) (by decide)) dL_law_1234 ?_
  refine lv_topi (fun a3 ea3 => ?_)
  have e_a2 : a2 = a0 := ea2.trans (by rw [ex2, ← ex0]; exact ea0.symm)
  rw [e_a2]
  have e_a3 : a3 = a1 := ea3.trans (by rw [ex3, ← ex1]; exact ea1.symm)
  rw [e_a3]
  refine cm_vein l C0 hA hN hK (Nat.le_of_ble_eq_true rfl) a0 a1 hCM (P_perm List.perm_append_comm hP) (D_perm List.perm_append_comm hD) hS hl.1 hf (fun r2 wm H locs hans2 hCM hP hD hS => ?_)
  replace hP := P_perm List.perm_append_comm hP
  replace hD := D_perm List.perm_append_comm hD
  refine lv_pop2_2 hx hb dL_law_1238 rfl ?_
  refine lv_goto (tgt := 1456) hx hb dL_law_1239 (by decide) ?_
  refine W.widen (k := cells + 3) (n := slots + 464) (by omega) (by omega) ?_
  exact K _ _ _ _ _ _ _ _ _ _ _ _ _ _ wx wm _ _ ls hCX hCM hP hD hS hl

set_option maxHeartbeats 1000000 in
set_option maxRecDepth 100000 in
theorem lw_c_time {p : Program} {e : Env} {s : State} {m : MethodId} {below : List Frame} {meth : Method} {c : Code} (l : Launch) {sb L : Nat} {xs : Nat → Int32} {A : Nat → Prop} (C0 : lw_At p s m meth c sb L xs) (hL : L ≤ 3072) (hA : ∀ q, s.heap.size ≤ q → A q) (hbA : ¬ A sb) {G : va_G} {cs : Nat → ClassId} {xe : XE} (hN : NW s) (hK : va_K G vwCl (tyL cs) s) (hxe : isRf xe.2.2) (hZ : XZ xe A s) {Q : State → Prop} {h0 m0 : Nat} {cells slots : Nat} (hf : cells ≤ 580000 ∧ slots ≤ 7290000) {i : Int32} (hi0 : 0 ≤ i.toInt) (hi1 : i.toInt + 6 ≤ (L : Int)) (K : ∀ (kx : Nat → Int32) (lx : Int32) (tx : Nat → Int32) (zw : Nat → Int) (zU : UL) (zl : Nat → List Cls) (zWI : Nat → Nat → Int) (zLI : Nat → Nat → List Cls) (zft : Int) (zsp : Int) (zmd : Int) (zla : Int) (zrf : Nat → Int32) (zD : ODr) (wx wm : va_W) (H : Heap) (locs : List Loc) (ls : Array Slot), CX cs h0 kx lx tx zw zU zl zWI zLI zft zsp zmd zla zrf zD wx → CM cs m0 kx lx tx zw zU zl zWI zLI zft zsp zmd zla zrf zD wm → va_P G vwCl (wx ++ wm) H → va_D A (wx ++ wm) → va_S A s.heap H locs → lv_has ls 4 [(0, Value.ref sb), (1, Value.ref h0), (2, Value.ref m0), (3, Value.int i)] → W p l e room_1 s m #[Value.ref sb] below meth c H locs (cells + 3) (slots + 464) Q (F0 m 1456 ls [])) {kx : Nat → Int32} {lx : Int32} {tx : Nat → Int32} {zw : Nat → Int} {zU : UL} {zl : Nat → List Cls} {zWI : Nat → Nat → Int} {zLI : Nat → Nat → List Cls} {zft : Int} {zsp : Int} {zmd : Int} {zla : Int} {zrf : Nat → Int32} {zD : ODr} {wx wm : va_W} {H : Heap} {locs : List Loc} {ls : Array Slot} (hCX : CX cs h0 kx lx tx zw zU zl zWI zLI zft zsp zmd zla zrf zD wx) (hCM : CM cs m0 kx lx tx zw zU zl zWI zLI zft zsp zmd zla zrf zD wm) (hP : va_P G vwCl (wx ++ wm) H) (hD : va_D A (wx ++ wm)) (hS : va_S A s.heap H locs) (hl : lv_has ls 4 [(0, Value.ref sb), (1, Value.ref h0), (2, Value.ref m0), (3, Value.int i)]) : W p l e room_1 s m #[Value.ref sb] below meth c H locs cells slots Q (F0 m 1242 ls []) := by
  obtain ⟨hx, hb, hr, hml, hown, hts, hX, hbl, hlocks, hgv⟩ := id C0
  have hb : c.code = cL_law := hb
  have hown : s.vm.findClass RL = some m.cls := hown
  have htl := gW_l hts
  have hf : cells ≤ 590000 ∧ slots ≤ 7300000 := (by first | with_reducible assumption | exact ⟨by omega, by omega⟩)
  refine lv_aload_n hx hb dL_law_1242 rfl (lv_at hl 1 rfl) ?_
  refine lv_aload_n hx hb dL_law_1243 rfl (lv_at hl 0 rfl) ?_
  refine lv_iload_n hx hb dL_law_1244 rfl (lv_at hl 3 rfl) ?_
  refine lv_iconst (v := 1) hx hb dL_law_1245 (by decide) ?_
  refine lv_iadd hx hb dL_law_1246 ?_
  refine lv_topi (fun ix0 ex0 => ?_)
  refine va_sld hx hb hX hbl hbA hS (ix_in hi0 hi1 hL ex0 (by decide) (by decide)) dL_law_1247 ?_
  refine lv_topi (fun a0 ea0 => ?_)
  refine lv_aload_n hx hb dL_law_1248 rfl (lv_at hl 0 rfl) ?_
  refine lv_iload_n hx hb dL_law_1249 rfl (lv_at hl 3 rfl) ?_
  refine lv_iconst (v := 2) hx hb dL_law_1250 (by decide) ?_
  refine lv_iadd hx hb dL_law_1251 ?_
  refine lv_topi (fun ix1 ex1 => ?_)
  refine va_sld hx hb hX hbl hbA hS (ix_in hi0 hi1 hL ex1 (by decide) (by decide)) dL_law_1252 ?_
  refine lv_topi (fun a1 ea1 => ?_)
  refine lv_aload_n hx hb dL_law_1253 rfl (lv_at hl 0 rfl) ?_
  refine lv_iload_n hx hb dL_law_1254 rfl (lv_at hl 3 rfl) ?_
  refine lv_iconst (v := 3) hx hb dL_law_1255 (by decide) ?_
  refine lv_iadd hx hb dL_law_1256 ?_
  refine lv_topi (fun ix2 ex2 => ?_)
  refine va_sld hx hb hX hbl hbA hS (ix_in hi0 hi1 hL ex2 (by decide) (by decide)) dL_law_1257 ?_
  refine lv_topi (fun a2 ea2 => ?_)
  refine cx_time l C0 hA hN hK hxe hZ a0 a1 a2 hCX hP hD hS hl.1 hf (fun r wx H locs hans hCX hP hD hS => ?_)
  refine lv_pop2_2 hx hb dL_law_1261 rfl ?_
  refine lv_aload_n hx hb dL_law_1262 rfl (lv_at hl 2 rfl) ?_
  refine lv_aload_n hx hb dL_law_1263 rfl (lv_at hl 0 rfl) ?_
  refine lv_iload_n hx hb dL_law_1264 rfl (lv_at hl 3 rfl) ?_
  refine lv_iconst (v := 1) hx hb dL_law_1265 (by decide) ?_
  refine lv_iadd hx hb dL_law_1266 ?_
  refine lv_topi (fun ix3 ex3 => ?_)
  refine va_sld hx hb hX hbl hbA hS (ix_in hi0 hi1 hL ex3 (by decide) (by decide)) dL_law_1267 ?_
  refine lv_topi (fun a3 ea3 => ?_)
  refine lv_aload_n hx hb dL_law_1268 rfl (lv_at hl 0 rfl) ?_
  refine lv_iload_n hx hb dL_law_1269 rfl (lv_at hl 3 rfl) ?_
  refine lv_iconst (v := 2) hx hb dL_law_1270 (by decide) ?_
  refine lv_iadd hx hb dL_law_1271 ?_
  refine lv_topi (fun ix4 ex4 => ?_)
  refine va_sld hx hb hX hbl hbA hS (ix_in hi0 hi1 hL ex4 (by decide) (by decide)) dL_law_1272 ?_
  refine lv_topi (fun a4 ea4 => ?_)
  refine lv_aload_n hx hb dL_law_1273 rfl (lv_at hl 0 rfl) ?_
  refine lv_iload_n hx hb dL_law_1274 rfl (lv_at hl 3 rfl) ?_
  refine lv_iconst (v := 3) hx hb dL_law_1275 (by decide) ?_
  refine lv_iadd hx hb dL_law_1276 ?_
  refine lv_topi (fun ix5 ex5 => ?_)
  refine va_sld hx hb hX hbl hbA hS (ix_in hi0 hi1 hL ex5 (by decide) (by decide)) dL_law_1277 ?_
  refine lv_topi (fun a5 ea5 => ?_)
  have e_a3 : a3 = a0 := ea3.trans (by rw [ex3, ← ex0]; exact ea0.symm)
  rw [e_a3]
  have e_a4 : a4 = a1 := ea4.trans (by rw [ex4, ← ex1]; exact ea1.symm)
  rw [e_a4]
  have e_a5 : a5 = a2 := ea5.trans (by rw [ex5, ← ex2]; exact ea2.symm)
  rw [e_a5]
  refine cm_time l C0 hA hN hK (Nat.le_of_ble_eq_true rfl) a0 a1 a2 hCM (P_perm List.perm_append_comm hP) (D_perm List.perm_append_comm hD) hS hl.1 hf (fun r2 wm H locs hans2 hCM hP hD hS => ?_)
  replace hP := P_perm List.perm_append_comm hP
  replace hD := D_perm List.perm_append_comm hD
  refine lv_pop2_2 hx hb dL_law_1281 rfl ?_
  refine lv_goto (tgt := 1456) hx hb dL_law_1282 (by decide) ?_
  refine W.widen (k := cells + 3) (n := slots + 464) (by omega) (by omega) ?_
  exact K _ _ _ _ _ _ _ _ _ _ _ _ _ _ wx wm _ _ ls hCX hCM hP hD hS hl

set_option maxHeartbeats 1000000 in
set_option maxRecDepth 100000 in
theorem lw_c_compare {p : Program} {e : Env} {s : State} {m : MethodId} {below : List Frame} {meth : Method} {c : Code} (l : Launch) {sb L : Nat} {xs : Nat → Int32} {A : Nat → Prop} (C0 : lw_At p s m meth c sb L xs) (hL : L ≤ 3072) (hA : ∀ q, s.heap.size ≤ q → A q) (hbA : ¬ A sb) {G : va_G} {cs : Nat → ClassId} {xe : XE} (hN : NW s) (hK : va_K G vwCl (tyL cs) s) (hxe : isRf xe.2.2) (hZ : XZ xe A s) {Q : State → Prop} {h0 m0 : Nat} {cells slots : Nat} (hf : cells ≤ 580000 ∧ slots ≤ 7290000) {i : Int32} (hi0 : 0 ≤ i.toInt) (hi1 : i.toInt + 6 ≤ (L : Int)) (K : ∀ (kx : Nat → Int32) (lx : Int32) (tx : Nat → Int32) (zw : Nat → Int) (zU : UL) (zl : Nat → List Cls) (zWI : Nat → Nat → Int) (zLI : Nat → Nat → List Cls) (zft : Int) (zsp : Int) (zmd : Int) (zla : Int) (zrf : Nat → Int32) (zD : ODr) (wx wm : va_W) (H : Heap) (locs : List Loc) (ls : Array Slot), CX cs h0 kx lx tx zw zU zl zWI zLI zft zsp zmd zla zrf zD wx → CM cs m0 kx lx tx zw zU zl zWI zLI zft zsp zmd zla zrf zD wm → va_P G vwCl (wx ++ wm) H → va_D A (wx ++ wm) → va_S A s.heap H locs → lv_has ls 4 [(0, Value.ref sb), (1, Value.ref h0), (2, Value.ref m0), (3, Value.int i)] → W p l e room_1 s m #[Value.ref sb] below meth c H locs (cells + 3) (slots + 464) Q (F0 m 1456 ls [])) {kx : Nat → Int32} {lx : Int32} {tx : Nat → Int32} {zw : Nat → Int} {zU : UL} {zl : Nat → List Cls} {zWI : Nat → Nat → Int} {zLI : Nat → Nat → List Cls} {zft : Int} {zsp : Int} {zmd : Int} {zla : Int} {zrf : Nat → Int32} {zD : ODr} {wx wm : va_W} {H : Heap} {locs : List Loc} {ls : Array Slot} (hCX : CX cs h0 kx lx tx zw zU zl zWI zLI zft zsp zmd zla zrf zD wx) (hCM : CM cs m0 kx lx tx zw zU zl zWI zLI zft zsp zmd zla zrf zD wm) (hP : va_P G vwCl (wx ++ wm) H) (hD : va_D A (wx ++ wm)) (hS : va_S A s.heap H locs) (hl : lv_has ls 4 [(0, Value.ref sb), (1, Value.ref h0), (2, Value.ref m0), (3, Value.int i)]) : W p l e room_1 s m #[Value.ref sb] below meth c H locs cells slots Q (F0 m 1285 ls []) := by
  obtain ⟨hx, hb, hr, hml, hown, hts, hX, hbl, hlocks, hgv⟩ := id C0
  have hb : c.code = cL_law := hb
  have hown : s.vm.findClass RL = some m.cls := hown
  have htl := gW_l hts
  have hf : cells ≤ 590000 ∧ slots ≤ 7300000 := (by first | with_reducible assumption | exact ⟨by omega, by omega⟩)
  refine lv_aload_n hx hb dL_law_1285 rfl (lv_at hl 1 rfl) ?_
  refine lv_aload_n hx hb dL_law_1286 rfl (lv_at hl 0 rfl) ?_
  refine lv_iload_n hx hb dL_law_1287 rfl (lv_at hl 3 rfl) ?_
  refine lv_iconst (v := 1) hx hb dL_law_1288 (by decide) ?_
  refine lv_iadd hx hb dL_law_1289 ?_
  refine lv_topi (fun ix0 ex0 => ?_)
  refine va_sld hx hb hX hbl hbA hS (ix_in hi0 hi1 hL ex0 (by decide) (by decide)) dL_law_1290 ?_
  refine lv_topi (fun a0 ea0 => ?_)
  refine cx_compare l C0 hA hN hK hxe hZ a0 hCX hP hD hS hl.1 hf (fun r wx H locs hans hCX hP hD hS => ?_)
  refine lv_pop hx hb dL_law_1294 rfl ?_
  refine lv_aload_n hx hb dL_law_1295 rfl (lv_at hl 2 rfl) ?_
  refine lv_aload_n hx hb dL_law_1296 rfl (lv_at hl 0 rfl) ?_
  refine lv_iload_n hx hb dL_law_1297 rfl (lv_at hl 3 rfl) ?_
  refine lv_iconst (v := 1) hx hb dL_law_1298 (by decide) ?_
  refine lv_iadd hx hb dL_law_1299 ?_
  refine lv_topi (fun ix1 ex1 => ?_)
  refine va_sld hx hb hX hbl hbA hS (ix_in hi0 hi1 hL ex1 (by decide) (by decide)) dL_law_1300 ?_
  refine lv_topi (fun a1 ea1 => ?_)
  have e_a1 : a1 = a0 := ea1.trans (by rw [ex1, ← ex0]; exact ea0.symm)
  rw [e_a1]
  refine cm_compare l C0 hA hN hK (Nat.le_of_ble_eq_true rfl) a0 hCM (P_perm List.perm_append_comm hP) (D_perm List.perm_append_comm hD) hS hl.1 hf (fun r2 wm H locs hans2 hCM hP hD hS => ?_)
  replace hP := P_perm List.perm_append_comm hP
  replace hD := D_perm List.perm_append_comm hD
  refine lv_pop hx hb dL_law_1304 rfl ?_
  refine lv_goto (tgt := 1456) hx hb dL_law_1305 (by decide) ?_
  refine W.widen (k := cells + 3) (n := slots + 464) (by omega) (by omega) ?_
  exact K _ _ _ _ _ _ _ _ _ _ _ _ _ _ wx wm _ _ ls hCX hCM hP hD hS hl

set_option maxHeartbeats 1000000 in
set_option maxRecDepth 100000 in
theorem lw_c_drawn {p : Program} {e : Env} {s : State} {m : MethodId} {below : List Frame} {meth : Method} {c : Code} (l : Launch) {sb L : Nat} {xs : Nat → Int32} {A : Nat → Prop} (C0 : lw_At p s m meth c sb L xs) (hL : L ≤ 3072) (hA : ∀ q, s.heap.size ≤ q → A q) (hbA : ¬ A sb) {G : va_G} {cs : Nat → ClassId} {xe : XE} (hN : NW s) (hK : va_K G vwCl (tyL cs) s) (hxe : isRf xe.2.2) (hZ : XZ xe A s) {Q : State → Prop} {h0 m0 : Nat} {cells slots : Nat} (hf : cells ≤ 580000 ∧ slots ≤ 7290000) {i : Int32} (hi0 : 0 ≤ i.toInt) (hi1 : i.toInt + 6 ≤ (L : Int)) (K : ∀ (kx : Nat → Int32) (lx : Int32) (tx : Nat → Int32) (zw : Nat → Int) (zU : UL) (zl : Nat → List Cls) (zWI : Nat → Nat → Int) (zLI : Nat → Nat → List Cls) (zft : Int) (zsp : Int) (zmd : Int) (zla : Int) (zrf : Nat → Int32) (zD : ODr) (wx wm : va_W) (H : Heap) (locs : List Loc) (ls : Array Slot), CX cs h0 kx lx tx zw zU zl zWI zLI zft zsp zmd zla zrf zD wx → CM cs m0 kx lx tx zw zU zl zWI zLI zft zsp zmd zla zrf zD wm → va_P G vwCl (wx ++ wm) H → va_D A (wx ++ wm) → va_S A s.heap H locs → lv_has ls 4 [(0, Value.ref sb), (1, Value.ref h0), (2, Value.ref m0), (3, Value.int i)] → W p l e room_1 s m #[Value.ref sb] below meth c H locs (cells + 3) (slots + 464) Q (F0 m 1456 ls [])) {kx : Nat → Int32} {lx : Int32} {tx : Nat → Int32} {zw : Nat → Int} {zU : UL} {zl : Nat → List Cls} {zWI : Nat → Nat → Int} {zLI : Nat → Nat → List Cls} {zft : Int} {zsp : Int} {zmd : Int} {zla : Int} {zrf : Nat → Int32} {zD : ODr} {wx wm : va_W} {H : Heap} {locs : List Loc} {ls : Array Slot} (hCX : CX cs h0 kx lx tx zw zU zl zWI zLI zft zsp zmd zla zrf zD wx) (hCM : CM cs m0 kx lx tx zw zU zl zWI zLI zft zsp zmd zla zrf zD wm) (hP : va_P G vwCl (wx ++ wm) H) (hD : va_D A (wx ++ wm)) (hS : va_S A s.heap H locs) (hl : lv_has ls 4 [(0, Value.ref sb), (1, Value.ref h0), (2, Value.ref m0), (3, Value.int i)]) : W p l e room_1 s m #[Value.ref sb] below meth c H locs cells slots Q (F0 m 1341 ls []) := by
  obtain ⟨hx, hb, hr, hml, hown, hts, hX, hbl, hlocks, hgv⟩ := id C0
  have hb : c.code = cL_law := hb
  have hown : s.vm.findClass RL = some m.cls := hown
  have htl := gW_l hts
  have hf : cells ≤ 590000 ∧ slots ≤ 7300000 := (by first | with_reducible assumption | exact ⟨by omega, by omega⟩)
  refine lv_aload_n hx hb dL_law_1341 rfl (lv_at hl 1 rfl) ?_
  refine lv_aload_n hx hb dL_law_1342 rfl (lv_at hl 0 rfl) ?_
  refine lv_iload_n hx hb dL_law_1343 rfl (lv_at hl 3 rfl) ?_
  refine lv_iconst (v := 1) hx hb dL_law_1344 (by decide) ?_
  refine lv_iadd hx hb dL_law_1345 ?_
  refine lv_topi (fun ix0 ex0 => ?_)
  refine va_sld hx hb hX hbl hbA hS (ix_in hi0 hi1 hL ex0 (by decide) (by decide)) dL_law_1346 ?_
  refine lv_topi (fun a0 ea0 => ?_)
  refine lv_aload_n hx hb dL_law_1347 rfl (lv_at hl 0 rfl) ?_
  refine lv_iload_n hx hb dL_law_1348 rfl (lv_at hl 3 rfl) ?_
  refine lv_iconst (v := 2) hx hb dL_law_1349 (by decide) ?_
  refine lv_iadd hx hb dL_law_1350 ?_
  refine lv_topi (fun ix1 ex1 => ?_)
  refine va_sld hx hb hX hbl hbA hS (ix_in hi0 hi1 hL ex1 (by decide) (by decide)) dL_law_1351 ?_
  refine lv_topi (fun a1 ea1 => ?_)
  refine cx_drawn l C0 hA hN hK hxe hZ a0 a1 hCX hP hD hS hl.1 hf (fun r wx H locs hans hCX hP hD hS => ?_)
  refine lv_pop hx hb dL_law_1355 rfl ?_
  refine lv_aload_n hx hb dL_law_1356 rfl (lv_at hl 2 rfl) ?_
  refine lv_aload_n hx hb dL_law_1357 rfl (lv_at hl 0 rfl) ?_
  refine lv_iload_n hx hb dL_law_1358 rfl (lv_at hl 3 rfl) ?_
  refine lv_iconst (v := 1) hx hb dL_law_1359 (by decide) ?_
  refine lv_iadd hx hb dL_law_1360 ?_
  refine lv_topi (fun ix2 ex2 => ?_)
  refine va_sld hx hb hX hbl hbA hS (ix_in hi0 hi1 hL ex2 (by decide) (by decide)) dL_law_1361 ?_
  refine lv_topi (fun a2 ea2 => ?_)
  refine lv_aload_n hx hb dL_law_1362 rfl (lv_at hl 0 rfl) ?_
  refine lv_iload_n hx hb dL_law_1363 rfl (lv_at hl 3 rfl) ?_
  refine lv_iconst (v := 2) hx hb dL_law_1364 (by decide) ?_
  refine lv_iadd hx hb dL_law_1365 ?_
  refine lv_topi (fun ix3 ex3 => ?_)
  refine va_sld hx hb hX hbl hbA hS (ix_in hi0 hi1 hL ex3 (by decide) (by decide)) dL_law_1366 ?_
  refine lv_topi (fun a3 ea3 => ?_)
  have e_a2 : a2 = a0 := ea2.trans (by rw [ex2, ← ex0]; exact ea0.symm)
  rw [e_a2]
  have e_a3 : a3 = a1 := ea3.trans (by rw [ex3, ← ex1]; exact ea1.symm)
  rw [e_a3]
  refine cm_drawn l C0 hA hN hK (Nat.le_of_ble_eq_true rfl) a0 a1 hCM (P_perm List.perm_append_comm hP) (D_perm List.perm_append_comm hD) hS hl.1 hf (fun r2 wm H locs hans2 hCM hP hD hS => ?_)
  replace hP := P_perm List.perm_append_comm hP
  replace hD := D_perm List.perm_append_comm hD
  refine lv_pop hx hb dL_law_1370 rfl ?_
  refine lv_goto (tgt := 1456) hx hb dL_law_1371 (by decide) ?_
  refine W.widen (k := cells + 3) (n := slots + 464) (by omega) (by omega) ?_
  exact K _ _ _ _ _ _ _ _ _ _ _ _ _ _ wx wm _ _ ls hCX hCM hP hD hS hl

set_option maxHeartbeats 1000000 in
set_option maxRecDepth 100000 in
theorem lw_c_image {p : Program} {e : Env} {s : State} {m : MethodId} {below : List Frame} {meth : Method} {c : Code} (l : Launch) {sb L : Nat} {xs : Nat → Int32} {A : Nat → Prop} (C0 : lw_At p s m meth c sb L xs) (hL : L ≤ 3072) (hA : ∀ q, s.heap.size ≤ q → A q) (hbA : ¬ A sb) {G : va_G} {cs : Nat → ClassId} {xe : XE} (hN : NW s) (hK : va_K G vwCl (tyL cs) s) (hxe : isRf xe.2.2) (hZ : XZ xe A s) {Q : State → Prop} {h0 m0 : Nat} {cells slots : Nat} (hf : cells ≤ 580000 ∧ slots ≤ 7290000) {i : Int32} (hi0 : 0 ≤ i.toInt) (hi1 : i.toInt + 6 ≤ (L : Int)) (K : ∀ (kx : Nat → Int32) (lx : Int32) (tx : Nat → Int32) (zw : Nat → Int) (zU : UL) (zl : Nat → List Cls) (zWI : Nat → Nat → Int) (zLI : Nat → Nat → List Cls) (zft : Int) (zsp : Int) (zmd : Int) (zla : Int) (zrf : Nat → Int32) (zD : ODr) (wx wm : va_W) (H : Heap) (locs : List Loc) (ls : Array Slot), CX cs h0 kx lx tx zw zU zl zWI zLI zft zsp zmd zla zrf zD wx → CM cs m0 kx lx tx zw zU zl zWI zLI zft zsp zmd zla zrf zD wm → va_P G vwCl (wx ++ wm) H → va_D A (wx ++ wm) → va_S A s.heap H locs → lv_has ls 4 [(0, Value.ref sb), (1, Value.ref h0), (2, Value.ref m0), (3, Value.int i)] → W p l e room_1 s m #[Value.ref sb] below meth c H locs (cells + 3) (slots + 464) Q (F0 m 1456 ls [])) {kx : Nat → Int32} {lx : Int32} {tx : Nat → Int32} {zw : Nat → Int} {zU : UL} {zl : Nat → List Cls} {zWI : Nat → Nat → Int} {zLI : Nat → Nat → List Cls} {zft : Int} {zsp : Int} {zmd : Int} {zla : Int} {zrf : Nat → Int32} {zD : ODr} {wx wm : va_W} {H : Heap} {locs : List Loc} {ls : Array Slot} (hCX : CX cs h0 kx lx tx zw zU zl zWI zLI zft zsp zmd zla zrf zD wx) (hCM : CM cs m0 kx lx tx zw zU zl zWI zLI zft zsp zmd zla zrf zD wm) (hP : va_P G vwCl (wx ++ wm) H) (hD : va_D A (wx ++ wm)) (hS : va_S A s.heap H locs) (hl : lv_has ls 4 [(0, Value.ref sb), (1, Value.ref h0), (2, Value.ref m0), (3, Value.int i)]) : W p l e room_1 s m #[Value.ref sb] below meth c H locs cells slots Q (F0 m 1374 ls []) := by
  obtain ⟨hx, hb, hr, hml, hown, hts, hX, hbl, hlocks, hgv⟩ := id C0
  have hb : c.code = cL_law := hb
  have hown : s.vm.findClass RL = some m.cls := hown
  have htl := gW_l hts
  have hf : cells ≤ 590000 ∧ slots ≤ 7300000 := (by first | with_reducible assumption | exact ⟨by omega, by omega⟩)
  refine lv_aload_n hx hb dL_law_1374 rfl (lv_at hl 1 rfl) ?_
  refine lv_aload_n hx hb dL_law_1375 rfl (lv_at hl 0 rfl) ?_
  refine lv_iload_n hx hb dL_law_1376 rfl (lv_at hl 3 rfl) ?_
  refine lv_iconst (v := 1) hx hb dL_law_1377 (by decide) ?_
  refine lv_iadd hx hb dL_law_1378 ?_
  refine lv_topi (fun ix0 ex0 => ?_)
  refine va_sld hx hb hX hbl hbA hS (ix_in hi0 hi1 hL ex0 (by decide) (by decide)) dL_law_1379 ?_
  refine lv_topi (fun a0 ea0 => ?_)
  refine cx_image l C0 hA hN hK hxe hZ a0 hCX hP hD hS hl.1 hf (fun r wx H locs hans hCX hP hD hS => ?_)
  refine lv_pop hx hb dL_law_1383 rfl ?_
  refine lv_aload_n hx hb dL_law_1384 rfl (lv_at hl 2 rfl) ?_
  refine lv_aload_n hx hb dL_law_1385 rfl (lv_at hl 0 rfl) ?_
  refine lv_iload_n hx hb dL_law_1386 rfl (lv_at hl 3 rfl) ?_
  refine lv_iconst (v := 1) hx hb dL_law_1387 (by decide) ?_
  refine lv_iadd hx hb dL_law_1388 ?_
  refine lv_topi (fun ix1 ex1 => ?_)
  refine va_sld hx hb hX hbl hbA hS (ix_in hi0 hi1 hL ex1 (by decide) (by decide)) dL_law_1389 ?_
  refine lv_topi (fun a1 ea1 => ?_)
  have e_a1 : a1 = a0 := ea1.trans (by rw [ex1, ← ex0]; exact ea0.symm)
  rw [e_a1]
  refine cm_image l C0 hA hN hK (Nat.le_of_ble_eq_true rfl) a0 hCM (P_perm List.perm_append_comm hP) (D_perm List.perm_append_comm hD) hS hl.1 hf (fun r2 wm H locs hans2 hCM hP hD hS => ?_)
  replace hP := P_perm List.perm_append_comm hP
  replace hD := D_perm List.perm_append_comm hD
  refine lv_pop hx hb dL_law_1393 rfl ?_
  refine lv_goto (tgt := 1456) hx hb dL_law_1394 (by decide) ?_
  refine W.widen (k := cells + 3) (n := slots + 464) (by omega) (by omega) ?_
  exact K _ _ _ _ _ _ _ _ _ _ _ _ _ _ wx wm _ _ ls hCX hCM hP hD hS hl

set_option maxHeartbeats 1000000 in
set_option maxRecDepth 100000 in
theorem lw_c_back {p : Program} {e : Env} {s : State} {m : MethodId} {below : List Frame} {meth : Method} {c : Code} (l : Launch) {sb L : Nat} {xs : Nat → Int32} {A : Nat → Prop} (C0 : lw_At p s m meth c sb L xs) (hL : L ≤ 3072) (hA : ∀ q, s.heap.size ≤ q → A q) (hbA : ¬ A sb) {G : va_G} {cs : Nat → ClassId} {xe : XE} (hN : NW s) (hK : va_K G vwCl (tyL cs) s) (hxe : isRf xe.2.2) (hZ : XZ xe A s) {Q : State → Prop} {h0 m0 : Nat} {cells slots : Nat} (hf : cells ≤ 580000 ∧ slots ≤ 7290000) {i : Int32} (hi0 : 0 ≤ i.toInt) (hi1 : i.toInt + 6 ≤ (L : Int)) (K : ∀ (kx : Nat → Int32) (lx : Int32) (tx : Nat → Int32) (zw : Nat → Int) (zU : UL) (zl : Nat → List Cls) (zWI : Nat → Nat → Int) (zLI : Nat → Nat → List Cls) (zft : Int) (zsp : Int) (zmd : Int) (zla : Int) (zrf : Nat → Int32) (zD : ODr) (wx wm : va_W) (H : Heap) (locs : List Loc) (ls : Array Slot), CX cs h0 kx lx tx zw zU zl zWI zLI zft zsp zmd zla zrf zD wx → CM cs m0 kx lx tx zw zU zl zWI zLI zft zsp zmd zla zrf zD wm → va_P G vwCl (wx ++ wm) H → va_D A (wx ++ wm) → va_S A s.heap H locs → lv_has ls 4 [(0, Value.ref sb), (1, Value.ref h0), (2, Value.ref m0), (3, Value.int i)] → W p l e room_1 s m #[Value.ref sb] below meth c H locs (cells + 3) (slots + 464) Q (F0 m 1456 ls [])) {kx : Nat → Int32} {lx : Int32} {tx : Nat → Int32} {zw : Nat → Int} {zU : UL} {zl : Nat → List Cls} {zWI : Nat → Nat → Int} {zLI : Nat → Nat → List Cls} {zft : Int} {zsp : Int} {zmd : Int} {zla : Int} {zrf : Nat → Int32} {zD : ODr} {wx wm : va_W} {H : Heap} {locs : List Loc} {ls : Array Slot} (hCX : CX cs h0 kx lx tx zw zU zl zWI zLI zft zsp zmd zla zrf zD wx) (hCM : CM cs m0 kx lx tx zw zU zl zWI zLI zft zsp zmd zla zrf zD wm) (hP : va_P G vwCl (wx ++ wm) H) (hD : va_D A (wx ++ wm)) (hS : va_S A s.heap H locs) (hl : lv_has ls 4 [(0, Value.ref sb), (1, Value.ref h0), (2, Value.ref m0), (3, Value.int i)]) : W p l e room_1 s m #[Value.ref sb] below meth c H locs cells slots Q (F0 m 1397 ls []) := by
  obtain ⟨hx, hb, hr, hml, hown, hts, hX, hbl, hlocks, hgv⟩ := id C0
  have hb : c.code = cL_law := hb
  have hown : s.vm.findClass RL = some m.cls := hown
  have htl := gW_l hts
  have hf : cells ≤ 590000 ∧ slots ≤ 7300000 := (by first | with_reducible assumption | exact ⟨by omega, by omega⟩)
  refine lv_aload_n hx hb dL_law_1397 rfl (lv_at hl 1 rfl) ?_
  refine lv_aload_n hx hb dL_law_1398 rfl (lv_at hl 0 rfl) ?_
  refine lv_iload_n hx hb dL_law_1399 rfl (lv_at hl 3 rfl) ?_
  refine lv_iconst (v := 1) hx hb dL_law_1400 (by decide) ?_
  refine lv_iadd hx hb dL_law_1401 ?_
  refine lv_topi (fun ix0 ex0 => ?_)
  refine va_sld hx hb hX hbl hbA hS (ix_in hi0 hi1 hL ex0 (by decide) (by decide)) dL_law_1402 ?_
  refine lv_topi (fun a0 ea0 => ?_)
  refine cx_back l C0 hA hN hK hxe hZ a0 hCX hP hD hS hl.1 hf (fun r wx H locs hans hCX hP hD hS => ?_)
  refine lv_pop hx hb dL_law_1406 rfl ?_
  refine lv_aload_n hx hb dL_law_1407 rfl (lv_at hl 2 rfl) ?_
  refine lv_aload_n hx hb dL_law_1408 rfl (lv_at hl 0 rfl) ?_
  refine lv_iload_n hx hb dL_law_1409 rfl (lv_at hl 3 rfl) ?_
  refine lv_iconst (v := 1) hx hb dL_law_1410 (by decide) ?_
  refine lv_iadd hx hb dL_law_1411 ?_
  refine lv_topi (fun ix1 ex1 => ?_)
  refine va_sld hx hb hX hbl hbA hS (ix_in hi0 hi1 hL ex1 (by decide) (by decide)) dL_law_1412 ?_
  refine lv_topi (fun a1 ea1 => ?_)
  have e_a1 : a1 = a0 := ea1.trans (by rw [ex1, ← ex0]; exact ea0.symm)
  rw [e_a1]
  refine cm_back l C0 hA hN hK (Nat.le_of_ble_eq_true rfl) a0 hCM (P_perm List.perm_append_comm hP) (D_perm List.perm_append_comm hD) hS hl.1 hf (fun r2 wm H locs hans2 hCM hP hD hS => ?_)
  replace hP := P_perm List.perm_append_comm hP
  replace hD := D_perm List.perm_append_comm hD
  refine lv_pop hx hb dL_law_1416 rfl ?_
  refine lv_goto (tgt := 1456) hx hb dL_law_1417 (by decide) ?_
  refine W.widen (k := cells + 3) (n := slots + 464) (by omega) (by omega) ?_
  exact K _ _ _ _ _ _ _ _ _ _ _ _ _ _ wx wm _ _ ls hCX hCM hP hD hS hl

set_option maxHeartbeats 1000000 in
set_option maxRecDepth 100000 in
theorem lw_c_count {p : Program} {e : Env} {s : State} {m : MethodId} {below : List Frame} {meth : Method} {c : Code} (l : Launch) {sb L : Nat} {xs : Nat → Int32} {A : Nat → Prop} (C0 : lw_At p s m meth c sb L xs) (hL : L ≤ 3072) (hA : ∀ q, s.heap.size ≤ q → A q) (hbA : ¬ A sb) {G : va_G} {cs : Nat → ClassId} {xe : XE} (hN : NW s) (hK : va_K G vwCl (tyL cs) s) (hxe : isRf xe.2.2) (hZ : XZ xe A s) {Q : State → Prop} {h0 m0 : Nat} {cells slots : Nat} (hf : cells ≤ 580000 ∧ slots ≤ 7290000) {i : Int32} (hi0 : 0 ≤ i.toInt) (hi1 : i.toInt + 6 ≤ (L : Int)) (K : ∀ (kx : Nat → Int32) (lx : Int32) (tx : Nat → Int32) (zw : Nat → Int) (zU : UL) (zl : Nat → List Cls) (zWI : Nat → Nat → Int) (zLI : Nat → Nat → List Cls) (zft : Int) (zsp : Int) (zmd : Int) (zla : Int) (zrf : Nat → Int32) (zD : ODr) (wx wm : va_W) (H : Heap) (locs : List Loc) (ls : Array Slot), CX cs h0 kx lx tx zw zU zl zWI zLI zft zsp zmd zla zrf zD wx → CM cs m0 kx lx tx zw zU zl zWI zLI zft zsp zmd zla zrf zD wm → va_P G vwCl (wx ++ wm) H → va_D A (wx ++ wm) → va_S A s.heap H locs → lv_has ls 4 [(0, Value.ref sb), (1, Value.ref h0), (2, Value.ref m0), (3, Value.int i)] → W p l e room_1 s m #[Value.ref sb] below meth c H locs (cells + 3) (slots + 464) Q (F0 m 1456 ls [])) {kx : Nat → Int32} {lx : Int32} {tx : Nat → Int32} {zw : Nat → Int} {zU : UL} {zl : Nat → List Cls} {zWI : Nat → Nat → Int} {zLI : Nat → Nat → List Cls} {zft : Int} {zsp : Int} {zmd : Int} {zla : Int} {zrf : Nat → Int32} {zD : ODr} {wx wm : va_W} {H : Heap} {locs : List Loc} {ls : Array Slot} (hCX : CX cs h0 kx lx tx zw zU zl zWI zLI zft zsp zmd zla zrf zD wx) (hCM : CM cs m0 kx lx tx zw zU zl zWI zLI zft zsp zmd zla zrf zD wm) (hP : va_P G vwCl (wx ++ wm) H) (hD : va_D A (wx ++ wm)) (hS : va_S A s.heap H locs) (hl : lv_has ls 4 [(0, Value.ref sb), (1, Value.ref h0), (2, Value.ref m0), (3, Value.int i)]) : W p l e room_1 s m #[Value.ref sb] below meth c H locs cells slots Q (F0 m 1420 ls []) := by
  obtain ⟨hx, hb, hr, hml, hown, hts, hX, hbl, hlocks, hgv⟩ := id C0
  have hb : c.code = cL_law := hb
  have hown : s.vm.findClass RL = some m.cls := hown
  have htl := gW_l hts
  have hf : cells ≤ 590000 ∧ slots ≤ 7300000 := (by first | with_reducible assumption | exact ⟨by omega, by omega⟩)
  refine lv_aload_n hx hb dL_law_1420 rfl (lv_at hl 1 rfl) ?_
  refine lv_aload_n hx hb dL_law_1421 rfl (lv_at hl 0 rfl) ?_
  refine lv_iload_n hx hb dL_law_1422 rfl (lv_at hl 3 rfl) ?_
  refine lv_iconst (v := 1) hx hb dL_law_1423 (by decide) ?_
  refine lv_iadd hx hb dL_law_1424 ?_
  refine lv_topi (fun ix0 ex0 => ?_)
  refine va_sld hx hb hX hbl hbA hS (ix_in hi0 hi1 hL ex0 (by decide) (by decide)) dL_law_1425 ?_
  refine lv_topi (fun a0 ea0 => ?_)
  refine cx_count l C0 hA hN hK hxe hZ a0 hCX hP hD hS hl.1 hf (fun r wx H locs hans hCX hP hD hS => ?_)
  refine lv_pop hx hb dL_law_1429 rfl ?_
  refine lv_aload_n hx hb dL_law_1430 rfl (lv_at hl 2 rfl) ?_
  refine lv_aload_n hx hb dL_law_1431 rfl (lv_at hl 0 rfl) ?_
  refine lv_iload_n hx hb dL_law_1432 rfl (lv_at hl 3 rfl) ?_
  refine lv_iconst (v := 1) hx hb dL_law_1433 (by decide) ?_
  refine lv_iadd hx hb dL_law_1434 ?_
  refine lv_topi (fun ix1 ex1 => ?_)
  refine va_sld hx hb hX hbl hbA hS (ix_in hi0 hi1 hL ex1 (by decide) (by decide)) dL_law_1435 ?_
  refine lv_topi (fun a1 ea1 => ?_)
  have e_a1 : a1 = a0 := ea1.trans (by rw [ex1, ← ex0]; exact ea0.symm)
  rw [e_a1]
  refine cm_count l C0 hA hN hK (Nat.le_of_ble_eq_true rfl) a0 hCM (P_perm List.perm_append_comm hP) (D_perm List.perm_append_comm hD) hS hl.1 hf (fun r2 wm H locs hans2 hCM hP hD hS => ?_)
  replace hP := P_perm List.perm_append_comm hP
  replace hD := D_perm List.perm_append_comm hD
  refine lv_pop hx hb dL_law_1439 rfl ?_
  refine lv_goto (tgt := 1456) hx hb dL_law_1440 (by decide) ?_
  refine W.widen (k := cells + 3) (n := slots + 464) (by omega) (by omega) ?_
  exact K _ _ _ _ _ _ _ _ _ _ _ _ _ _ wx wm _ _ ls hCX hCM hP hD hS hl

set_option maxHeartbeats 1000000 in
set_option maxRecDepth 100000 in
theorem lw_c_status {p : Program} {e : Env} {s : State} {m : MethodId} {below : List Frame} {meth : Method} {c : Code} (l : Launch) {sb L : Nat} {xs : Nat → Int32} {A : Nat → Prop} (C0 : lw_At p s m meth c sb L xs) (hL : L ≤ 3072) (hA : ∀ q, s.heap.size ≤ q → A q) (hbA : ¬ A sb) {G : va_G} {cs : Nat → ClassId} {xe : XE} (hN : NW s) (hK : va_K G vwCl (tyL cs) s) (hxe : isRf xe.2.2) (hZ : XZ xe A s) {Q : State → Prop} {h0 m0 : Nat} {cells slots : Nat} (hf : cells ≤ 580000 ∧ slots ≤ 7290000) {i : Int32} (hi0 : 0 ≤ i.toInt) (hi1 : i.toInt + 6 ≤ (L : Int)) (K : ∀ (kx : Nat → Int32) (lx : Int32) (tx : Nat → Int32) (zw : Nat → Int) (zU : UL) (zl : Nat → List Cls) (zWI : Nat → Nat → Int) (zLI : Nat → Nat → List Cls) (zft : Int) (zsp : Int) (zmd : Int) (zla : Int) (zrf : Nat → Int32) (zD : ODr) (wx wm : va_W) (H : Heap) (locs : List Loc) (ls : Array Slot), CX cs h0 kx lx tx zw zU zl zWI zLI zft zsp zmd zla zrf zD wx → CM cs m0 kx lx tx zw zU zl zWI zLI zft zsp zmd zla zrf zD wm → va_P G vwCl (wx ++ wm) H → va_D A (wx ++ wm) → va_S A s.heap H locs → lv_has ls 4 [(0, Value.ref sb), (1, Value.ref h0), (2, Value.ref m0), (3, Value.int i)] → W p l e room_1 s m #[Value.ref sb] below meth c H locs (cells + 3) (slots + 464) Q (F0 m 1456 ls [])) {kx : Nat → Int32} {lx : Int32} {tx : Nat → Int32} {zw : Nat → Int} {zU : UL} {zl : Nat → List Cls} {zWI : Nat → Nat → Int} {zLI : Nat → Nat → List Cls} {zft : Int} {zsp : Int} {zmd : Int} {zla : Int} {zrf : Nat → Int32} {zD : ODr} {wx wm : va_W} {H : Heap} {locs : List Loc} {ls : Array Slot} (hCX : CX cs h0 kx lx tx zw zU zl zWI zLI zft zsp zmd zla zrf zD wx) (hCM : CM cs m0 kx lx tx zw zU zl zWI zLI zft zsp zmd zla zrf zD wm) (hP : va_P G vwCl (wx ++ wm) H) (hD : va_D A (wx ++ wm)) (hS : va_S A s.heap H locs) (hl : lv_has ls 4 [(0, Value.ref sb), (1, Value.ref h0), (2, Value.ref m0), (3, Value.int i)]) : W p l e room_1 s m #[Value.ref sb] below meth c H locs cells slots Q (F0 m 1443 ls []) := by
  obtain ⟨hx, hb, hr, hml, hown, hts, hX, hbl, hlocks, hgv⟩ := id C0
  have hb : c.code = cL_law := hb
  have hown : s.vm.findClass RL = some m.cls := hown
  have htl := gW_l hts
  have hf : cells ≤ 590000 ∧ slots ≤ 7300000 := (by first | with_reducible assumption | exact ⟨by omega, by omega⟩)
  refine lv_aload_n hx hb dL_law_1443 rfl (lv_at hl 1 rfl) ?_
  refine cx_status l C0 hA hN hK hxe hZ  hCX hP hD hS hl.1 hf (fun r wx H locs hans hCX hP hD hS => ?_)
  refine lv_pop hx hb dL_law_1447 rfl ?_
  refine lv_aload_n hx hb dL_law_1448 rfl (lv_at hl 2 rfl) ?_
  refine cm_status l C0 hA hN hK (Nat.le_of_ble_eq_true rfl)  hCM (P_perm List.perm_append_comm hP) (D_perm List.perm_append_comm hD) hS hl.1 hf (fun r2 wm H locs hans2 hCM hP hD hS => ?_)
  replace hP := P_perm List.perm_append_comm hP
  replace hD := D_perm List.perm_append_comm hD
  refine lv_pop hx hb dL_law_1452 rfl ?_
  refine lv_goto (tgt := 1456) hx hb dL_law_1453 (by decide) ?_
  refine W.widen (k := cells + 3) (n := slots + 464) (by omega) (by omega) ?_
  exact K _ _ _ _ _ _ _ _ _ _ _ _ _ _ wx wm _ _ ls hCX hCM hP hD hS hl
end
