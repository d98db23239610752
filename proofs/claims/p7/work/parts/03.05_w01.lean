section
set_option maxRecDepth 100000 in
def wp_X3_fewestToHush_T (b : Int32) (d : Int32) (h0_asker_done : Int32) (h0_asker_latest : Int32) (h0_asker_value : Int32) (h0_asker_law_clauses : Int32) (h0_asker_law_length : Int32) (n_h0_asker_law_heads : Nat) (f_h0_asker_law_heads : Nat → Int32) (n_h0_asker_law_code : Nat) (f_h0_asker_law_code : Nat → Int32) (f_h0_asker_stack : Nat → Int64) (p0_folk_listeners : Int32) (p0_folk_noises : Int32) (p0_folk_hushed : Int32) (f_p0_folk_column : Nat → Int32) (f_p0_rock_hard : Nat → Int32) (f_p0_rock_water : Nat → Int32) (f_p0_term : Nat → Int32) (p0_crew_count : Int32) (f_p0_crew_cell : Nat → Int32) (f_p0_crew_buckets : Nat → Int32) (f_h0_said : Nat → Int32) (f_h0_lost : Nat → Int32) (f_p0_folk_ear : Nat → Int32) (f_p0_folk_noiseColumn : Nat → Int32) (f_p0_folk_noiseLoud : Nat → Int32) (Q : Int32 → (Int32 × Int32 × Int32 × Int32 × (Nat → Int64) × (Nat → Int32) × (Nat → Int32)) → Prop) : Prop := (wp_X3_measureCell_T d h0_asker_done h0_asker_latest h0_asker_value h0_asker_law_clauses h0_asker_law_length n_h0_asker_law_heads (f_h0_asker_law_heads) n_h0_asker_law_code (f_h0_asker_law_code) (f_h0_asker_stack) p0_folk_listeners (f_p0_folk_column) (f_p0_rock_hard) (f_p0_rock_water) (f_p0_term) p0_crew_count (f_p0_crew_cell) (f_p0_crew_buckets) (f_h0_said) (f_h0_lost) (un7 (fun (u_2_0 : Int32) (u_2_1 : Int32) (u_2_2 : Int32) (u_2_3 : Int32) (u_2_4 : Nat → Int64) (u_2_5 : Nat → Int32) (u_2_6 : Nat → Int32) => (wl_X3_fewestToHush_T_11 b d p0_folk_listeners p0_folk_noises p0_folk_hushed f_p0_folk_column f_p0_folk_ear f_p0_folk_noiseColumn f_p0_folk_noiseLoud u_2_5 u_2_6 (fun (x_11_0 : Int32) (x_11_1 : Int32) => (Q x_11_1 (u_2_0, u_2_1, u_2_2, u_2_3, u_2_4, u_2_5, u_2_6))) 1000000000000 0 (-1)))))
set_option maxRecDepth 100000 in
def wl_X3_hiddenCells_T_17 (h0_asker_done : Int32) (h0_asker_latest : Int32) (p0_rock_dug : Int64) (f_p0_rock_kind : Nat → Int32) (t_clauses : Int32) (t_length : Int32) (n_t_heads : Nat) (f_t_heads : Nat → Int32) (n_t_code : Nat) (f_t_code : Nat → Int32) (p0_folk_listeners : Int32) (p0_folk_hearsay : Int32) (f_p0_folk_column : Nat → Int32) (f_p0_rock_hard : Nat → Int32) (f_p0_rock_water : Nat → Int32) (f_p0_term : Nat → Int32) (p0_crew_count : Int32) (f_p0_crew_cell : Nat → Int32) (f_p0_crew_buckets : Nat → Int32) (f_p0_folk_hearsayColumn : Nat → Int32) (f_p0_folk_hearsayLoud : Nat → Int32) (Qb : Int32 → Int64 → (Nat → Int64) → (Nat → Int32) → (Nat → Int32) → Int32 → Int32 → Int32 → Int32 → Prop) : Nat → Int32 → Int64 → (Nat → Int64) → (Nat → Int32) → (Nat → Int32) → Int32 → Int32 → Int32 → Int32 → Prop
  | 0, _, _, _, _, _, _, _, _, _ => False
  | n + 1, x_17_0, x_17_1, x_17_2, x_17_3, x_17_4, x_17_5, x_17_6, x_17_7, x_17_8 => (if 40 ≤ x_17_0 then (Qb x_17_0 x_17_1 x_17_2 x_17_3 x_17_4 x_17_5 x_17_6 x_17_7 x_17_8) else (vp_in x_17_0 40 ∧ (if (f_p0_rock_kind x_17_0.toNatClampNeg) = 3 then (wl_X3_hiddenCells_T_17 h0_asker_done h0_asker_latest p0_rock_dug f_p0_rock_kind t_clauses t_length n_t_heads f_t_heads n_t_code f_t_code p0_folk_listeners p0_folk_hearsay f_p0_folk_column f_p0_rock_hard f_p0_rock_water f_p0_term p0_crew_count f_p0_crew_cell f_p0_crew_buckets f_p0_folk_hearsayColumn f_p0_folk_hearsayLoud Qb n (x_17_0 + 1) x_17_1 x_17_2 x_17_3 x_17_4 x_17_5 x_17_6 x_17_7 x_17_8) else (wp_X6_isDug x_17_0 p0_rock_dug (fun (r_44 : Int32) => (if r_44 = 0 then (wp_X3_measureCell_T x_17_0 h0_asker_done h0_asker_latest x_17_8 t_clauses t_length n_t_heads (f_t_heads) n_t_code (f_t_code) (x_17_2) p0_folk_listeners (f_p0_folk_column) (f_p0_rock_hard) (f_p0_rock_water) (f_p0_term) p0_crew_count (f_p0_crew_cell) (f_p0_crew_buckets) (x_17_3) (x_17_4) (un7 (fun (u_53_0 : Int32) (u_53_1 : Int32) (u_53_2 : Int32) (u_53_3 : Int32) (u_53_4 : Nat → Int64) (u_53_5 : Nat → Int32) (u_53_6 : Nat → Int32) => (wp_X3_isAsHeard x_17_0 p0_folk_hearsay (f_p0_folk_hearsayColumn) (u_53_5) (u_53_6) (f_p0_folk_hearsayLoud) (fun (r_63 : Int32) => (if r_63 = 0 then (wl_X3_hiddenCells_T_17 h0_asker_done h0_asker_latest p0_rock_dug f_p0_rock_kind t_clauses t_length n_t_heads f_t_heads n_t_code f_t_code p0_folk_listeners p0_folk_hearsay f_p0_folk_column f_p0_rock_hard f_p0_rock_water f_p0_term p0_crew_count f_p0_crew_cell f_p0_crew_buckets f_p0_folk_hearsayColumn f_p0_folk_hearsayLoud Qb n (x_17_0 + 1) x_17_1 u_53_4 u_53_5 u_53_6 u_53_0 u_53_1 u_53_2 u_53_3) else (wl_X3_hiddenCells_T_17 h0_asker_done h0_asker_latest p0_rock_dug f_p0_rock_kind t_clauses t_length n_t_heads f_t_heads n_t_code f_t_code p0_folk_listeners p0_folk_hearsay f_p0_folk_column f_p0_rock_hard f_p0_rock_water f_p0_term p0_crew_count f_p0_crew_cell f_p0_crew_buckets f_p0_folk_hearsayColumn f_p0_folk_hearsayLoud Qb n (x_17_0 + 1) (x_17_1 ||| ((1 : Int64) <<< (x_17_0.toInt64 &&& 63))) u_53_4 u_53_5 u_53_6 u_53_0 u_53_1 u_53_2 u_53_3))))))) else (wl_X3_hiddenCells_T_17 h0_asker_done h0_asker_latest p0_rock_dug f_p0_rock_kind t_clauses t_length n_t_heads f_t_heads n_t_code f_t_code p0_folk_listeners p0_folk_hearsay f_p0_folk_column f_p0_rock_hard f_p0_rock_water f_p0_term p0_crew_count f_p0_crew_cell f_p0_crew_buckets f_p0_folk_hearsayColumn f_p0_folk_hearsayLoud Qb n (x_17_0 + 1) x_17_1 x_17_2 x_17_3 x_17_4 x_17_5 x_17_6 x_17_7 x_17_8)))))))
set_option maxRecDepth 100000 in
def wp_X3_hiddenCells_T (p0_lawCount : Int32) (p0_force : Int32) (f_p0_laws : Nat → Option Nat) (h0_asker_cell : Int32) (h0_asker_shaft : Int32) (h0_asker_kind : Int32) (h0_asker_done : Int32) (h0_asker_latest : Int32) (h0_asker_value : Int32) (p0_rock_dug : Int64) (f_p0_rock_kind : Nat → Int32) (t : Nat) (t_clauses : Int32) (t_length : Int32) (n_t_heads : Nat) (f_t_heads : Nat → Int32) (n_t_code : Nat) (f_t_code : Nat → Int32) (f_h0_asker_stack : Nat → Int64) (p0_folk_listeners : Int32) (p0_folk_hearsay : Int32) (f_p0_folk_column : Nat → Int32) (f_p0_rock_hard : Nat → Int32) (f_p0_rock_water : Nat → Int32) (f_p0_term : Nat → Int32) (p0_crew_count : Int32) (f_p0_crew_cell : Nat → Int32) (f_p0_crew_buckets : Nat → Int32) (f_h0_said : Nat → Int32) (f_h0_lost : Nat → Int32) (f_p0_folk_hearsayColumn : Nat → Int32) (f_p0_folk_hearsayLoud : Nat → Int32) (Q : Int64 → (Int32 × Int32 × Int32 × Int32 × (Nat → Int64) × (Nat → Int32) × (Nat → Int32)) → Prop) : Prop := (wp_X10_lawInForce_T p0_lawCount p0_force (f_p0_laws) t (wp_X0_turnTo_T (fun (u_9 : Unit) => (wl_X3_hiddenCells_T_17 h0_asker_done h0_asker_latest p0_rock_dug f_p0_rock_kind t_clauses t_length n_t_heads f_t_heads n_t_code f_t_code p0_folk_listeners p0_folk_hearsay f_p0_folk_column f_p0_rock_hard f_p0_rock_water f_p0_term p0_crew_count f_p0_crew_cell f_p0_crew_buckets f_p0_folk_hearsayColumn f_p0_folk_hearsayLoud (fun (x_17_0 : Int32) (x_17_1 : Int64) (x_17_2 : Nat → Int64) (x_17_3 : Nat → Int32) (x_17_4 : Nat → Int32) (x_17_5 : Int32) (x_17_6 : Int32) (x_17_7 : Int32) (x_17_8 : Int32) => (Q x_17_1 (x_17_5, x_17_6, x_17_7, x_17_8, x_17_2, x_17_3, x_17_4))) 1000000000000 0 0 f_h0_asker_stack f_h0_said f_h0_lost h0_asker_cell h0_asker_shaft h0_asker_kind h0_asker_value))))
set_option maxRecDepth 100000 in
def wp_X7_tryDig_T (a : Int32) (b : Int32) (h0_world : Nat) (h0_world_lawCount : Int32) (h0_world_force : Int32) (h0_world_crew_count : Int32) (f_h0_world_crew_cell : Nat → Int32) (h0_world_rock_dug : Int64) (f_h0_world_rock_kind : Nat → Int32) (f_h0_world_laws : Nat → Option Nat) (h0_asker_world : Value) (h0_asker_law : Value) (h0_asker_cell : Int32) (h0_asker_shaft : Int32) (h0_asker_kind : Int32) (h0_asker_done : Int32) (h0_asker_latest : Int32) (h0_asker_value : Int32) (f_h0_world_term : Nat → Int32) (f_h0_world_rock_hard : Nat → Int32) (t : Nat) (t_clauses : Int32) (t_length : Int32) (n_t_heads : Nat) (f_t_heads : Nat → Int32) (n_t_code : Nat) (f_t_code : Nat → Int32) (f_h0_asker_stack : Nat → Int64) (h0_world_folk_listeners : Int32) (f_h0_world_folk_column : Nat → Int32) (f_h0_world_rock_water : Nat → Int32) (f_h0_world_crew_buckets : Nat → Int32) (h0_diary_kept : Int32) (h0_diary_latest : Int32) (f_h0_diary_deed : Nat → Int32) (f_h0_diary_whose : Nat → Int32) (f_h0_diary_before : Nat → Int32) (f_h0_diary_bucketsBefore : Nat → Int32) (f_h0_diary_dayBefore : Nat → Int32) (Q : Int32 → ((Nat → Int32) × Int64 × Value × Value × Int32 × Int32 × Int32 × Int32 × (Nat → Int32) × (Nat → Int64) × Int32 × Int32 × (Nat → Int32) × (Nat → Int32) × (Nat → Int32) × (Nat → Int32) × (Nat → Int32)) → Prop) : Prop := (if b < 0 then (Q (-1) (f_h0_world_crew_cell, h0_world_rock_dug, h0_asker_world, h0_asker_law, h0_asker_cell, h0_asker_shaft, h0_asker_kind, h0_asker_value, f_h0_world_term, f_h0_asker_stack, h0_diary_kept, h0_diary_latest, f_h0_diary_deed, f_h0_diary_whose, f_h0_diary_before, f_h0_diary_bucketsBefore, f_h0_diary_dayBefore)) else (if b ≤ 2 then (wp_X11_isWithin a h0_world_crew_count (fun (r_22 : Int32) => (if r_22 = 0 then (Q (-2) (f_h0_world_crew_cell, h0_world_rock_dug, h0_asker_world, h0_asker_law, h0_asker_cell, h0_asker_shaft, h0_asker_kind, h0_asker_value, f_h0_world_term, f_h0_asker_stack, h0_diary_kept, h0_diary_latest, f_h0_diary_deed, f_h0_diary_whose, f_h0_diary_before, f_h0_diary_bucketsBefore, f_h0_diary_dayBefore)) else (vp_in a 6 ∧ (wp_X7_neighbour (f_h0_world_crew_cell a.toNatClampNeg) b (fun (r_46 : Int32) => (wp_X10_mayBeDugOn a (f_h0_world_crew_cell) (f_h0_world_rock_kind) (fun (r_56 : Int32) => (if r_56 = 0 then (Q (-3) (f_h0_world_crew_cell, h0_world_rock_dug, h0_asker_world, h0_asker_law, h0_asker_cell, h0_asker_shaft, h0_asker_kind, h0_asker_value, f_h0_world_term, f_h0_asker_stack, h0_diary_kept, h0_diary_latest, f_h0_diary_deed, f_h0_diary_whose, f_h0_diary_before, f_h0_diary_bucketsBefore, f_h0_diary_dayBefore)) else (if r_46 = (-1) then (Q (-3) (f_h0_world_crew_cell, h0_world_rock_dug, h0_asker_world, h0_asker_law, h0_asker_cell, h0_asker_shaft, h0_asker_kind, h0_asker_value, f_h0_world_term, f_h0_asker_stack, h0_diary_kept, h0_diary_latest, f_h0_diary_deed, f_h0_diary_whose, f_h0_diary_before, f_h0_diary_bucketsBefore, f_h0_diary_dayBefore)) else (wp_X6_isDug r_46 h0_world_rock_dug (fun (r_77 : Int32) => (if r_77 = 0 then (wp_X10_lawInForce_T h0_world_lawCount h0_world_force (f_h0_world_laws) t (wp_X0_turnTo_T (fun (u_101 : Unit) => (wp_X0_digsOf_T a r_46 h0_asker_done h0_asker_latest h0_asker_value (f_h0_world_rock_kind) (f_h0_world_rock_hard) t_clauses t_length n_t_heads (f_t_heads) n_t_code (f_t_code) (f_h0_asker_stack) h0_world_folk_listeners (f_h0_world_folk_column) (f_h0_world_rock_water) (f_h0_world_term) h0_world_crew_count (f_h0_world_crew_cell) (f_h0_world_crew_buckets) (fun (r_124 : Int32) => (un5 (fun (u_124_0 : Int32) (u_124_1 : Int32) (u_124_2 : Int32) (u_124_3 : Int32) (u_124_4 : Nat → Int64) => (if 9999 < ((f_h0_world_term (0 : Int32).toNatClampNeg) + r_124) then (Q (-3) (f_h0_world_crew_cell, h0_world_rock_dug, (Value.ref h0_world), (Value.ref t), u_124_0, u_124_1, u_124_2, u_124_3, f_h0_world_term, u_124_4, h0_diary_kept, h0_diary_latest, f_h0_diary_deed, f_h0_diary_whose, f_h0_diary_before, f_h0_diary_bucketsBefore, f_h0_diary_dayBefore)) else (wp_X0_passesOf_T a r_46 u_124_0 u_124_1 u_124_2 h0_asker_done h0_asker_latest u_124_3 (f_h0_world_rock_kind) t_clauses t_length n_t_heads (f_t_heads) n_t_code (f_t_code) (u_124_4) h0_world_folk_listeners (f_h0_world_folk_column) (f_h0_world_rock_hard) (f_h0_world_rock_water) (f_h0_world_term) h0_world_crew_count (f_h0_world_crew_cell) (f_h0_world_crew_buckets) (fun (r_145 : Int32) => (un5 (fun (u_145_0 : Int32) (u_145_1 : Int32) (u_145_2 : Int32) (u_145_3 : Int32) (u_145_4 : Nat → Int64) => (if r_145 = 0 then (Q (-3) (f_h0_world_crew_cell, h0_world_rock_dug, (Value.ref h0_world), (Value.ref t), u_145_0, u_145_1, u_145_2, u_145_3, f_h0_world_term, u_145_4, h0_diary_kept, h0_diary_latest, f_h0_diary_deed, f_h0_diary_whose, f_h0_diary_before, f_h0_diary_bucketsBefore, f_h0_diary_dayBefore)) else (wp_X2_add 0 a (f_h0_world_crew_cell a.toNatClampNeg) 0 (f_h0_world_term (0 : Int32).toNatClampNeg) h0_diary_kept h0_diary_latest (f_h0_diary_deed) (f_h0_diary_whose) (f_h0_diary_before) (f_h0_diary_bucketsBefore) (f_h0_diary_dayBefore) (un7 (fun (u_164_0 : Int32) (u_164_1 : Int32) (u_164_2 : Nat → Int32) (u_164_3 : Nat → Int32) (u_164_4 : Nat → Int32) (u_164_5 : Nat → Int32) (u_164_6 : Nat → Int32) => (wp_X6_mark r_46 h0_world_rock_dug (fun (u_187 : Int64) => (vp_in a 6 ∧ (Q r_46 ((upd f_h0_world_crew_cell a.toNatClampNeg r_46), u_187, (Value.ref h0_world), (Value.ref t), u_145_0, u_145_1, u_145_2, u_145_3, (upd f_h0_world_term 0 ((f_h0_world_term (0 : Int32).toNatClampNeg) + r_124)), u_145_4, u_164_0, u_164_1, u_164_2, u_164_3, u_164_4, u_164_5, u_164_6))))))))))))))))))))) else (Q (-3) (f_h0_world_crew_cell, h0_world_rock_dug, h0_asker_world, h0_asker_law, h0_asker_cell, h0_asker_shaft, h0_asker_kind, h0_asker_value, f_h0_world_term, f_h0_asker_stack, h0_diary_kept, h0_diary_latest, f_h0_diary_deed, f_h0_diary_whose, f_h0_diary_before, f_h0_diary_bucketsBefore, f_h0_diary_dayBefore))))))))))))))) else (Q (-1) (f_h0_world_crew_cell, h0_world_rock_dug, h0_asker_world, h0_asker_law, h0_asker_cell, h0_asker_shaft, h0_asker_kind, h0_asker_value, f_h0_world_term, f_h0_asker_stack, h0_diary_kept, h0_diary_latest, f_h0_diary_deed, f_h0_diary_whose, f_h0_diary_before, f_h0_diary_bucketsBefore, f_h0_diary_dayBefore))))
set_option maxRecDepth 100000 in
def wp_X7_tryHaul_T (a : Int32) (h0_world : Nat) (h0_world_lawCount : Int32) (h0_world_force : Int32) (h0_world_crew_count : Int32) (f_h0_world_crew_cell : Nat → Int32) (f_h0_world_term : Nat → Int32) (f_h0_world_rock_kind : Nat → Int32) (f_h0_world_laws : Nat → Option Nat) (h0_asker_world : Value) (h0_asker_law : Value) (h0_asker_cell : Int32) (h0_asker_shaft : Int32) (h0_asker_kind : Int32) (h0_asker_done : Int32) (h0_asker_latest : Int32) (h0_asker_value : Int32) (t : Nat) (t_clauses : Int32) (t_length : Int32) (n_t_heads : Nat) (f_t_heads : Nat → Int32) (n_t_code : Nat) (f_t_code : Nat → Int32) (f_h0_asker_stack : Nat → Int64) (h0_world_folk_listeners : Int32) (f_h0_world_folk_column : Nat → Int32) (f_h0_world_rock_hard : Nat → Int32) (f_h0_world_rock_water : Nat → Int32) (f_h0_world_crew_buckets : Nat → Int32) (h0_diary_kept : Int32) (h0_diary_latest : Int32) (f_h0_diary_deed : Nat → Int32) (f_h0_diary_whose : Nat → Int32) (f_h0_diary_before : Nat → Int32) (f_h0_diary_bucketsBefore : Nat → Int32) (f_h0_diary_dayBefore : Nat → Int32) (Q : Int32 → ((Nat → Int32) × Value × Value × Int32 × Int32 × Int32 × Int32 × (Nat → Int64) × (Nat → Int32) × (Nat → Int32) × Int32 × Int32 × (Nat → Int32) × (Nat → Int32) × (Nat → Int32) × (Nat → Int32) × (Nat → Int32)) → Prop) : Prop := (wp_X11_isWithin a h0_world_crew_count (fun (r_11 : Int32) => (if r_11 = 0 then (Q (-2) (f_h0_world_term, h0_asker_world, h0_asker_law, h0_asker_cell, h0_asker_shaft, h0_asker_kind, h0_asker_value, f_h0_asker_stack, f_h0_world_rock_water, f_h0_world_crew_buckets, h0_diary_kept, h0_diary_latest, f_h0_diary_deed, f_h0_diary_whose, f_h0_diary_before, f_h0_diary_bucketsBefore, f_h0_diary_dayBefore)) else (vp_in a 6 ∧ (vp_in (f_h0_world_crew_cell a.toNatClampNeg) 40 ∧ (if (f_h0_world_rock_kind (f_h0_world_crew_cell a.toNatClampNeg).toNatClampNeg) = 3 then (if (f_h0_world_term (0 : Int32).toNatClampNeg) < 9999 then (wp_X10_lawInForce_T h0_world_lawCount h0_world_force (f_h0_world_laws) t (wp_X0_turnTo_T (fun (u_84 : Unit) => (wp_X0_givesOf_T a (f_h0_world_crew_cell a.toNatClampNeg) h0_asker_done h0_asker_latest h0_asker_value (f_h0_world_rock_kind) t_clauses t_length n_t_heads (f_t_heads) n_t_code (f_t_code) (f_h0_asker_stack) h0_world_folk_listeners (f_h0_world_folk_column) (f_h0_world_rock_hard) (f_h0_world_rock_water) (f_h0_world_term) h0_world_crew_count (f_h0_world_crew_cell) (f_h0_world_crew_buckets) (fun (r_93 : Int32) => (un5 (fun (u_93_0 : Int32) (u_93_1 : Int32) (u_93_2 : Int32) (u_93_3 : Int32) (u_93_4 : Nat → Int64) => (vp_in a 6 ∧ (vp_in (f_h0_world_crew_cell a.toNatClampNeg) 40 ∧ (wp_X2_add 1 a (f_h0_world_rock_water (f_h0_world_crew_cell a.toNatClampNeg).toNatClampNeg) (f_h0_world_crew_buckets a.toNatClampNeg) (f_h0_world_term (0 : Int32).toNatClampNeg) h0_diary_kept h0_diary_latest (f_h0_diary_deed) (f_h0_diary_whose) (f_h0_diary_before) (f_h0_diary_bucketsBefore) (f_h0_diary_dayBefore) (un7 (fun (u_133_0 : Int32) (u_133_1 : Int32) (u_133_2 : Nat → Int32) (u_133_3 : Nat → Int32) (u_133_4 : Nat → Int32) (u_133_5 : Nat → Int32) (u_133_6 : Nat → Int32) => (vp_in (f_h0_world_crew_cell a.toNatClampNeg) 40 ∧ (vp_in (f_h0_world_crew_cell a.toNatClampNeg) 40 ∧ (vp_in a 6 ∧ (Q r_93 ((upd f_h0_world_term 0 ((f_h0_world_term (0 : Int32).toNatClampNeg) + 1)), (Value.ref h0_world), (Value.ref t), u_93_0, u_93_1, u_93_2, u_93_3, u_93_4, (upd f_h0_world_rock_water (f_h0_world_crew_cell a.toNatClampNeg).toNatClampNeg ((f_h0_world_rock_water (f_h0_world_crew_cell a.toNatClampNeg).toNatClampNeg) - r_93)), (upd f_h0_world_crew_buckets a.toNatClampNeg (if ((f_h0_world_crew_buckets a.toNatClampNeg) + r_93) < 9999 then ((f_h0_world_crew_buckets a.toNatClampNeg) + r_93) else 9999)), u_133_0, u_133_1, u_133_2, u_133_3, u_133_4, u_133_5, u_133_6))))))))))))))))) else (Q (-3) (f_h0_world_term, h0_asker_world, h0_asker_law, h0_asker_cell, h0_asker_shaft, h0_asker_kind, h0_asker_value, f_h0_asker_stack, f_h0_world_rock_water, f_h0_world_crew_buckets, h0_diary_kept, h0_diary_latest, f_h0_diary_deed, f_h0_diary_whose, f_h0_diary_before, f_h0_diary_bucketsBefore, f_h0_diary_dayBefore))) else (Q (-3) (f_h0_world_term, h0_asker_world, h0_asker_law, h0_asker_cell, h0_asker_shaft, h0_asker_kind, h0_asker_value, f_h0_asker_stack, f_h0_world_rock_water, f_h0_world_crew_buckets, h0_diary_kept, h0_diary_latest, f_h0_diary_deed, f_h0_diary_whose, f_h0_diary_before, f_h0_diary_bucketsBefore, f_h0_diary_dayBefore))))))))
set_option maxRecDepth 100000 in
def wp_X7_runOrder_T (b : Int32) (h0_world : Nat) (h0_latest : Int32) (p0_length : Int32) (n_p0_heads : Nat) (f_p0_heads : Nat → Int32) (h0_asker_law : Value) (h0_asker_cell : Int32) (h0_asker_shaft : Int32) (h0_asker_kind : Int32) (h0_asker_done : Int32) (h0_asker_latest : Int32) (h0_asker_value : Int32) (n_p0_code : Nat) (f_p0_code : Nat → Int32) (f_h0_asker_stack : Nat → Int64) (h0_world_lawCount : Int32) (h0_world_force : Int32) (h0_world_folk_listeners : Int32) (h0_world_folk_noises : Int32) (h0_world_folk_hushed : Int32) (f_h0_world_folk_column : Nat → Int32) (h0_world_rock_dug : Int64) (f_h0_world_rock_hard : Nat → Int32) (f_h0_world_rock_water : Nat → Int32) (f_h0_world_term : Nat → Int32) (h0_world_crew_count : Int32) (f_h0_world_crew_cell : Nat → Int32) (f_h0_world_crew_buckets : Nat → Int32) (f_h0_world_rock_kind : Nat → Int32) (f_h0_world_laws : Nat → Option Nat) (t : Nat) (t_clauses : Int32) (t_length : Int32) (n_t_heads : Nat) (f_t_heads : Nat → Int32) (n_t_code : Nat) (f_t_code : Nat → Int32) (h0_diary_kept : Int32) (h0_diary_latest : Int32) (f_h0_diary_deed : Nat → Int32) (f_h0_diary_whose : Nat → Int32) (f_h0_diary_before : Nat → Int32) (f_h0_diary_bucketsBefore : Nat → Int32) (f_h0_diary_dayBefore : Nat → Int32) (f_h0_world_folk_noiseColumn : Nat → Int32) (f_h0_world_folk_noiseLoud : Nat → Int32) (Q : Int32 → (Int32 × Value × Value × Int32 × Int32 × Int32 × Int32 × (Nat → Int64) × Int32 × (Nat → Int32) × Int64 × (Nat → Int32) × (Nat → Int32) × (Nat → Int32) × (Nat → Int32) × Int32 × Int32 × (Nat → Int32) × (Nat → Int32) × (Nat → Int32) × (Nat → Int32) × (Nat → Int32)) → Prop) : Prop := (wp_X8_headOf b 1 n_p0_heads (f_p0_heads) (fun (r_8 : Int32) => (wp_X0_reckon r_8 h0_asker_cell h0_asker_shaft h0_asker_kind h0_asker_done h0_asker_latest h0_asker_value p0_length n_p0_code (f_p0_code) (f_h0_asker_stack) h0_world_folk_listeners (f_h0_world_folk_column) (f_h0_world_rock_hard) (f_h0_world_rock_water) (f_h0_world_term) h0_world_crew_count (f_h0_world_crew_cell) (f_h0_world_crew_buckets) (fun (r_11 : Int32) => (un2 (fun (u_11_0 : Int32) (u_11_1 : Nat → Int64) => (if r_11 = 0 then (Q 0 (h0_latest, (Value.ref h0_world), h0_asker_law, h0_asker_cell, h0_asker_shaft, h0_asker_kind, u_11_0, u_11_1, h0_world_folk_hushed, f_h0_world_folk_column, h0_world_rock_dug, f_h0_world_rock_water, f_h0_world_term, f_h0_world_crew_cell, f_h0_world_crew_buckets, h0_diary_kept, h0_diary_latest, f_h0_diary_deed, f_h0_diary_whose, f_h0_diary_before, f_h0_diary_bucketsBefore, f_h0_diary_dayBefore)) else (wp_X0_reckoned u_11_0 (fun (r_23 : Int32) => (wp_X8_headOf b 0 n_p0_heads (f_p0_heads) (fun (r_30 : Int32) => (if r_30 = 21 then (wp_X7_tryHush r_23 h0_world_folk_noises h0_world_folk_hushed h0_diary_kept h0_diary_latest (f_h0_diary_deed) (f_h0_diary_whose) (f_h0_diary_before) (f_h0_diary_bucketsBefore) (f_h0_diary_dayBefore) (f_h0_world_folk_noiseColumn) (f_h0_world_folk_noiseLoud) (fun (r_44 : Int32) => (un8 (fun (u_44_0 : Int32) (u_44_1 : Int32) (u_44_2 : Int32) (u_44_3 : Nat → Int32) (u_44_4 : Nat → Int32) (u_44_5 : Nat → Int32) (u_44_6 : Nat → Int32) (u_44_7 : Nat → Int32) => (if r_44 < 0 then (Q 0 (h0_latest, (Value.ref h0_world), h0_asker_law, h0_asker_cell, h0_asker_shaft, h0_asker_kind, u_11_0, u_11_1, u_44_0, f_h0_world_folk_column, h0_world_rock_dug, f_h0_world_rock_water, f_h0_world_term, f_h0_world_crew_cell, f_h0_world_crew_buckets, u_44_1, u_44_2, u_44_3, u_44_4, u_44_5, u_44_6, u_44_7)) else (Q 1 (h0_latest, (Value.ref h0_world), h0_asker_law, h0_asker_cell, h0_asker_shaft, h0_asker_kind, u_11_0, u_11_1, u_44_0, f_h0_world_folk_column, h0_world_rock_dug, f_h0_world_rock_water, f_h0_world_term, f_h0_world_crew_cell, f_h0_world_crew_buckets, u_44_1, u_44_2, u_44_3, u_44_4, u_44_5, u_44_6, u_44_7))))))) else (if r_30 = 20 then (wp_X7_tryHaul_T r_23 h0_world h0_world_lawCount h0_world_force h0_world_crew_count (f_h0_world_crew_cell) (f_h0_world_term) (f_h0_world_rock_kind) (f_h0_world_laws) (Value.ref h0_world) h0_asker_law h0_asker_cell h0_asker_shaft h0_asker_kind h0_asker_done h0_asker_latest u_11_0 t t_clauses t_length n_t_heads (f_t_heads) n_t_code (f_t_code) (u_11_1) h0_world_folk_listeners (f_h0_world_folk_column) (f_h0_world_rock_hard) (f_h0_world_rock_water) (f_h0_world_crew_buckets) h0_diary_kept h0_diary_latest (f_h0_diary_deed) (f_h0_diary_whose) (f_h0_diary_before) (f_h0_diary_bucketsBefore) (f_h0_diary_dayBefore) (fun (r_66 : Int32) => (un17 (fun (u_66_0 : Nat → Int32) (u_66_1 : Value) (u_66_2 : Value) (u_66_3 : Int32) (u_66_4 : Int32) (u_66_5 : Int32) (u_66_6 : Int32) (u_66_7 : Nat → Int64) (u_66_8 : Nat → Int32) (u_66_9 : Nat → Int32) (u_66_10 : Int32) (u_66_11 : Int32) (u_66_12 : Nat → Int32) (u_66_13 : Nat → Int32) (u_66_14 : Nat → Int32) (u_66_15 : Nat → Int32) (u_66_16 : Nat → Int32) => (if r_66 < 0 then (Q 0 (r_66, u_66_1, u_66_2, u_66_3, u_66_4, u_66_5, u_66_6, u_66_7, h0_world_folk_hushed, f_h0_world_folk_column, h0_world_rock_dug, u_66_8, u_66_0, f_h0_world_crew_cell, u_66_9, u_66_10, u_66_11, u_66_12, u_66_13, u_66_14, u_66_15, u_66_16)) else (Q 1 (r_66, u_66_1, u_66_2, u_66_3, u_66_4, u_66_5, u_66_6, u_66_7, h0_world_folk_hushed, f_h0_world_folk_column, h0_world_rock_dug, u_66_8, u_66_0, f_h0_world_crew_cell, u_66_9, u_66_10, u_66_11, u_66_12, u_66_13, u_66_14, u_66_15, u_66_16))))))) else (wp_X8_headOf b 2 n_p0_heads (f_p0_heads) (fun (r_93 : Int32) => (wp_X0_reckon r_93 h0_asker_cell h0_asker_shaft h0_asker_kind h0_asker_done h0_asker_latest u_11_0 p0_length n_p0_code (f_p0_code) (u_11_1) h0_world_folk_listeners (f_h0_world_folk_column) (f_h0_world_rock_hard) (f_h0_world_rock_water) (f_h0_world_term) h0_world_crew_count (f_h0_world_crew_cell) (f_h0_world_crew_buckets) (fun (r_96 : Int32) => (un2 (fun (u_96_0 : Int32) (u_96_1 : Nat → Int64) => (if r_96 = 0 then (Q 0 (h0_latest, (Value.ref h0_world), h0_asker_law, h0_asker_cell, h0_asker_shaft, h0_asker_kind, u_96_0, u_96_1, h0_world_folk_hushed, f_h0_world_folk_column, h0_world_rock_dug, f_h0_world_rock_water, f_h0_world_term, f_h0_world_crew_cell, f_h0_world_crew_buckets, h0_diary_kept, h0_diary_latest, f_h0_diary_deed, f_h0_diary_whose, f_h0_diary_before, f_h0_diary_bucketsBefore, f_h0_diary_dayBefore)) else (wp_X0_reckoned u_96_0 (fun (r_108 : Int32) => (if r_30 = 22 then (wp_X7_tryLie r_23 r_108 h0_world_folk_listeners (f_h0_world_folk_column) h0_diary_kept h0_diary_latest (f_h0_diary_deed) (f_h0_diary_whose) (f_h0_diary_before) (f_h0_diary_bucketsBefore) (f_h0_diary_dayBefore) (fun (r_124 : Int32) => (un8 (fun (u_124_0 : Nat → Int32) (u_124_1 : Int32) (u_124_2 : Int32) (u_124_3 : Nat → Int32) (u_124_4 : Nat → Int32) (u_124_5 : Nat → Int32) (u_124_6 : Nat → Int32) (u_124_7 : Nat → Int32) => (if r_124 < 0 then (Q 0 (h0_latest, (Value.ref h0_world), h0_asker_law, h0_asker_cell, h0_asker_shaft, h0_asker_kind, u_96_0, u_96_1, h0_world_folk_hushed, u_124_0, h0_world_rock_dug, f_h0_world_rock_water, f_h0_world_term, f_h0_world_crew_cell, f_h0_world_crew_buckets, u_124_1, u_124_2, u_124_3, u_124_4, u_124_5, u_124_6, u_124_7)) else (Q 1 (h0_latest, (Value.ref h0_world), h0_asker_law, h0_asker_cell, h0_asker_shaft, h0_asker_kind, u_96_0, u_96_1, h0_world_folk_hushed, u_124_0, h0_world_rock_dug, f_h0_world_rock_water, f_h0_world_term, f_h0_world_crew_cell, f_h0_world_crew_buckets, u_124_1, u_124_2, u_124_3, u_124_4, u_124_5, u_124_6, u_124_7))))))) else (wp_X7_tryDig_T r_23 r_108 h0_world h0_world_lawCount h0_world_force h0_world_crew_count (f_h0_world_crew_cell) h0_world_rock_dug (f_h0_world_rock_kind) (f_h0_world_laws) (Value.ref h0_world) h0_asker_law h0_asker_cell h0_asker_shaft h0_asker_kind h0_asker_done h0_asker_latest u_96_0 (f_h0_world_term) (f_h0_world_rock_hard) t t_clauses t_length n_t_heads (f_t_heads) n_t_code (f_t_code) (u_96_1) h0_world_folk_listeners (f_h0_world_folk_column) (f_h0_world_rock_water) (f_h0_world_crew_buckets) h0_diary_kept h0_diary_latest (f_h0_diary_deed) (f_h0_diary_whose) (f_h0_diary_before) (f_h0_diary_bucketsBefore) (f_h0_diary_dayBefore) (fun (r_141 : Int32) => (un17 (fun (u_141_0 : Nat → Int32) (u_141_1 : Int64) (u_141_2 : Value) (u_141_3 : Value) (u_141_4 : Int32) (u_141_5 : Int32) (u_141_6 : Int32) (u_141_7 : Int32) (u_141_8 : Nat → Int32) (u_141_9 : Nat → Int64) (u_141_10 : Int32) (u_141_11 : Int32) (u_141_12 : Nat → Int32) (u_141_13 : Nat → Int32) (u_141_14 : Nat → Int32) (u_141_15 : Nat → Int32) (u_141_16 : Nat → Int32) => (if r_141 < 0 then (Q 0 (r_141, u_141_2, u_141_3, u_141_4, u_141_5, u_141_6, u_141_7, u_141_9, h0_world_folk_hushed, f_h0_world_folk_column, u_141_1, f_h0_world_rock_water, u_141_8, u_141_0, f_h0_world_crew_buckets, u_141_10, u_141_11, u_141_12, u_141_13, u_141_14, u_141_15, u_141_16)) else (Q 1 (r_141, u_141_2, u_141_3, u_141_4, u_141_5, u_141_6, u_141_7, u_141_9, h0_world_folk_hushed, f_h0_world_folk_column, u_141_1, f_h0_world_rock_water, u_141_8, u_141_0, f_h0_world_crew_buckets, u_141_10, u_141_11, u_141_12, u_141_13, u_141_14, u_141_15, u_141_16))))))))))))))))))))))))))))))
set_option maxRecDepth 100000 in
def wl_X9_weigh_T_3 (d : Int32) (p1_world_rock_dug : Int64) (p1_done : Int32) (p1_latest : Int32) (f_p1_world_rock_kind : Nat → Int32) (p1_law_clauses : Int32) (p1_law_length : Int32) (n_p1_law_heads : Nat) (f_p1_law_heads : Nat → Int32) (n_p1_law_code : Nat) (f_p1_law_code : Nat → Int32) (p1_world_folk_listeners : Int32) (f_p1_world_folk_column : Nat → Int32) (f_p1_world_rock_hard : Nat → Int32) (f_p1_world_rock_water : Nat → Int32) (f_p1_world_term : Nat → Int32) (p1_world_crew_count : Int32) (f_p1_world_crew_cell : Nat → Int32) (f_p1_world_crew_buckets : Nat → Int32) (Qb : Int32 → Int32 → Int32 → Int32 → Int32 → (Nat → Int64) → (Nat → Int32) → (Nat → Int32) → Prop) : Nat → Int32 → Int32 → Int32 → Int32 → Int32 → (Nat → Int64) → (Nat → Int32) → (Nat → Int32) → Prop
  | 0, _, _, _, _, _, _, _, _ => False
  | n + 1, x_3_0, x_3_1, x_3_2, x_3_3, x_3_4, x_3_5, x_3_6, x_3_7 => (if 40 ≤ x_3_0 then (Qb x_3_0 x_3_1 x_3_2 x_3_3 x_3_4 x_3_5 x_3_6 x_3_7) else (wp_X6_isDug x_3_0 p1_world_rock_dug (fun (r_13 : Int32) => (jn (un6 (fun (y_34_0 : Int32) (y_34_1 : Int32) (y_34_2 : Int32) (y_34_3 : Int32) (y_34_4 : Int32) (y_34_5 : Nat → Int64) => (jn (un6 (fun (y_58_0 : Int32) (y_58_1 : Int32) (y_58_2 : Int32) (y_58_3 : Int32) (y_58_4 : Int32) (y_58_5 : Nat → Int64) => (vp_in x_3_0 40 ∧ (wp_X6_endsAWay x_3_0 (f_p1_world_rock_kind) (fun (r_68 : Int32) => (vp_in x_3_0 40 ∧ (wl_X9_weigh_T_3 d p1_world_rock_dug p1_done p1_latest f_p1_world_rock_kind p1_law_clauses p1_law_length n_p1_law_heads f_p1_law_heads n_p1_law_code f_p1_law_code p1_world_folk_listeners f_p1_world_folk_column f_p1_world_rock_hard f_p1_world_rock_water f_p1_world_term p1_world_crew_count f_p1_world_crew_cell f_p1_world_crew_buckets Qb n (x_3_0 + 1) y_58_1 y_58_2 y_58_3 y_58_4 y_58_5 (upd x_3_6 x_3_0.toNatClampNeg y_58_0) (upd x_3_7 x_3_0.toNatClampNeg r_68)))))))) (fun k_58 => (if y_34_0 = 0 then (k_58 (0, y_34_1, y_34_2, y_34_3, y_34_4, y_34_5)) else (wp_X0_digsOf_T d x_3_0 p1_done p1_latest y_34_4 (f_p1_world_rock_kind) (f_p1_world_rock_hard) p1_law_clauses p1_law_length n_p1_law_heads (f_p1_law_heads) n_p1_law_code (f_p1_law_code) (y_34_5) p1_world_folk_listeners (f_p1_world_folk_column) (f_p1_world_rock_water) (f_p1_world_term) p1_world_crew_count (f_p1_world_crew_cell) (f_p1_world_crew_buckets) (fun (r_51 : Int32) => (un5 (fun (u_51_0 : Int32) (u_51_1 : Int32) (u_51_2 : Int32) (u_51_3 : Int32) (u_51_4 : Nat → Int64) => (k_58 (r_51, u_51_0, u_51_1, u_51_2, u_51_3, u_51_4))))))))))) (fun k_34 => (if r_13 = 0 then (wp_X0_passesOf_T d x_3_0 x_3_1 x_3_2 x_3_3 p1_done p1_latest x_3_4 (f_p1_world_rock_kind) p1_law_clauses p1_law_length n_p1_law_heads (f_p1_law_heads) n_p1_law_code (f_p1_law_code) (x_3_5) p1_world_folk_listeners (f_p1_world_folk_column) (f_p1_world_rock_hard) (f_p1_world_rock_water) (f_p1_world_term) p1_world_crew_count (f_p1_world_crew_cell) (f_p1_world_crew_buckets) (fun (r_23 : Int32) => (un5 (fun (u_23_0 : Int32) (u_23_1 : Int32) (u_23_2 : Int32) (u_23_3 : Int32) (u_23_4 : Nat → Int64) => (if r_23 = 0 then (k_34 (0, u_23_0, u_23_1, u_23_2, u_23_3, u_23_4)) else (k_34 (1, u_23_0, u_23_1, u_23_2, u_23_3, u_23_4))))))) else (k_34 (0, x_3_1, x_3_2, x_3_3, x_3_4, x_3_5))))))))
set_option maxRecDepth 100000 in
def wp_X9_weigh_T (d : Int32) (p1_world_rock_dug : Int64) (p1_cell : Int32) (p1_shaft : Int32) (p1_kind : Int32) (p1_done : Int32) (p1_latest : Int32) (p1_value : Int32) (f_p1_world_rock_kind : Nat → Int32) (p1_law_clauses : Int32) (p1_law_length : Int32) (n_p1_law_heads : Nat) (f_p1_law_heads : Nat → Int32) (n_p1_law_code : Nat) (f_p1_law_code : Nat → Int32) (f_p1_stack : Nat → Int64) (p1_world_folk_listeners : Int32) (f_p1_world_folk_column : Nat → Int32) (f_p1_world_rock_hard : Nat → Int32) (f_p1_world_rock_water : Nat → Int32) (f_p1_world_term : Nat → Int32) (p1_world_crew_count : Int32) (f_p1_world_crew_cell : Nat → Int32) (f_p1_world_crew_buckets : Nat → Int32) (f_h0_cost : Nat → Int32) (f_h0_endsWay : Nat → Int32) (Q : (Int32 × Int32 × Int32 × Int32 × (Nat → Int64) × (Nat → Int32) × (Nat → Int32)) → Prop) : Prop := (wl_X9_weigh_T_3 d p1_world_rock_dug p1_done p1_latest f_p1_world_rock_kind p1_law_clauses p1_law_length n_p1_law_heads f_p1_law_heads n_p1_law_code f_p1_law_code p1_world_folk_listeners f_p1_world_folk_column f_p1_world_rock_hard f_p1_world_rock_water f_p1_world_term p1_world_crew_count f_p1_world_crew_cell f_p1_world_crew_buckets (fun (x_3_0 : Int32) (x_3_1 : Int32) (x_3_2 : Int32) (x_3_3 : Int32) (x_3_4 : Int32) (x_3_5 : Nat → Int64) (x_3_6 : Nat → Int32) (x_3_7 : Nat → Int32) => (Q (x_3_1, x_3_2, x_3_3, x_3_4, x_3_5, x_3_6, x_3_7))) 1000000000000 0 p1_cell p1_shaft p1_kind p1_value f_p1_stack f_h0_cost f_h0_endsWay)
set_option maxRecDepth 100000 in
def wl_X9_priceAll_T_46 (d : Int32) (f_p0_crew_cell : Nat → Int32) (f_h0_told : Nat → Int32) (x_3_0 : Int32) (x_3_2 : Nat → Int32) (x_3_4 : Nat → Int32) (r_18 : Int32) (Qb : Int32 → (Nat → Int32) → (Nat → Int32) → Prop) : Nat → Int32 → (Nat → Int32) → (Nat → Int32) → Prop
  | 0, _, _, _ => False
  | n + 1, x_46_0, x_46_1, x_46_2 => (if d ≤ x_46_0 then (Qb x_46_0 x_46_1 x_46_2) else (if r_18 = 0 then (vp_in ((x_3_0 * 6) + x_46_0) 36 ∧ (wl_X9_priceAll_T_46 d f_p0_crew_cell f_h0_told x_3_0 x_3_2 x_3_4 r_18 Qb n (x_46_0 + 1) (upd x_46_1 ((x_3_0 * 6) + x_46_0).toNatClampNeg 1000000) x_46_2)) else (vp_in x_3_0 6 ∧ (vp_in x_46_0 6 ∧ (wp_X9_daysTo (f_p0_crew_cell x_3_0.toNatClampNeg) (f_h0_told x_46_0.toNatClampNeg) (x_3_2) (x_46_2) (x_3_4) (fun (r_87 : Int32) => (fun (u_87 : Nat → Int32) => (vp_in ((x_3_0 * 6) + x_46_0) 36 ∧ (wl_X9_priceAll_T_46 d f_p0_crew_cell f_h0_told x_3_0 x_3_2 x_3_4 r_18 Qb n (x_46_0 + 1) (upd x_46_1 ((x_3_0 * 6) + x_46_0).toNatClampNeg r_87) u_87)))))))))
set_option maxRecDepth 100000 in
def wl_X9_priceAll_T_46a (d : Int32) (f_p0_crew_cell : Nat → Int32) (f_h0_told : Nat → Int32) (x_3_0 : Int32) (x_3_2 : Nat → Int32) (x_3_4 : Nat → Int32) (r_18 : Int32) (Qb : Int32 → (Nat → Int32) → (Nat → Int32) → Prop) : Nat → Int32 → (Nat → Int32) → (Nat → Int32) → Prop
  | 0, _, _, _ => False
  | n + 1, x_46_0, x_46_1, x_46_2 => (if d ≤ x_46_0 then (Qb x_46_0 x_46_1 x_46_2) else (if r_18 = 0 then (vp_in ((x_3_0 * 6) + x_46_0) 36 ∧ (wl_X9_priceAll_T_46a d f_p0_crew_cell f_h0_told x_3_0 x_3_2 x_3_4 r_18 Qb n (x_46_0 + 1) (upd x_46_1 ((x_3_0 * 6) + x_46_0).toNatClampNeg 1000000) x_46_2)) else (vp_in x_3_0 6 ∧ (vp_in x_46_0 6 ∧ (wp_X9_daysTo (f_p0_crew_cell x_3_0.toNatClampNeg) (f_h0_told x_46_0.toNatClampNeg) (x_3_2) (x_46_2) (x_3_4) (fun (r_87 : Int32) => (fun (u_87 : Nat → Int32) => (vp_in ((x_3_0 * 6) + x_46_0) 36 ∧ (wl_X9_priceAll_T_46a d f_p0_crew_cell f_h0_told x_3_0 x_3_2 x_3_4 r_18 Qb n (x_46_0 + 1) (upd x_46_1 ((x_3_0 * 6) + x_46_0).toNatClampNeg r_87) u_87)))))))))
set_option maxRecDepth 100000 in
def wl_X9_priceAll_T_46b (d : Int32) (f_p0_crew_cell : Nat → Int32) (f_h0_told : Nat → Int32) (x_3_0 : Int32) (r_18 : Int32) (u_40_5 : Nat → Int32) (u_40_6 : Nat → Int32) (Qb : Int32 → (Nat → Int32) → (Nat → Int32) → Prop) : Nat → Int32 → (Nat → Int32) → (Nat → Int32) → Prop
  | 0, _, _, _ => False
  | n + 1, x_46_0, x_46_1, x_46_2 => (if d ≤ x_46_0 then (Qb x_46_0 x_46_1 x_46_2) else (if r_18 = 0 then (vp_in ((x_3_0 * 6) + x_46_0) 36 ∧ (wl_X9_priceAll_T_46b d f_p0_crew_cell f_h0_told x_3_0 r_18 u_40_5 u_40_6 Qb n (x_46_0 + 1) (upd x_46_1 ((x_3_0 * 6) + x_46_0).toNatClampNeg 1000000) x_46_2)) else (vp_in x_3_0 6 ∧ (vp_in x_46_0 6 ∧ (wp_X9_daysTo (f_p0_crew_cell x_3_0.toNatClampNeg) (f_h0_told x_46_0.toNatClampNeg) (u_40_5) (x_46_2) (u_40_6) (fun (r_87 : Int32) => (fun (u_87 : Nat → Int32) => (vp_in ((x_3_0 * 6) + x_46_0) 36 ∧ (wl_X9_priceAll_T_46b d f_p0_crew_cell f_h0_told x_3_0 r_18 u_40_5 u_40_6 Qb n (x_46_0 + 1) (upd x_46_1 ((x_3_0 * 6) + x_46_0).toNatClampNeg r_87) u_87)))))))))
set_option maxRecDepth 100000 in
def wl_X9_priceAll_T_3 (d : Int32) (p0_crew_count : Int32) (f_p0_crew_cell : Nat → Int32) (p0_rock_dug : Int64) (f_p0_rock_kind : Nat → Int32) (f_h0_told : Nat → Int32) (p1_done : Int32) (p1_latest : Int32) (p1_law_clauses : Int32) (p1_law_length : Int32) (n_p1_law_heads : Nat) (f_p1_law_heads : Nat → Int32) (n_p1_law_code : Nat) (f_p1_law_code : Nat → Int32) (p0_folk_listeners : Int32) (f_p0_folk_column : Nat → Int32) (f_p0_rock_hard : Nat → Int32) (f_p0_rock_water : Nat → Int32) (f_p0_term : Nat → Int32) (f_p0_crew_buckets : Nat → Int32) (Qb : Int32 → (Nat → Int32) → (Nat → Int32) → (Nat → Int32) → (Nat → Int32) → Int32 → Int32 → Int32 → Int32 → (Nat → Int64) → Prop) : Nat → Int32 → (Nat → Int32) → (Nat → Int32) → (Nat → Int32) → (Nat → Int32) → Int32 → Int32 → Int32 → Int32 → (Nat → Int64) → Prop
  | 0, _, _, _, _, _, _, _, _, _, _ => False
  | n + 1, x_3_0, x_3_1, x_3_2, x_3_3, x_3_4, x_3_5, x_3_6, x_3_7, x_3_8, x_3_9 => (if p0_crew_count ≤ x_3_0 then (Qb x_3_0 x_3_1 x_3_2 x_3_3 x_3_4 x_3_5 x_3_6 x_3_7 x_3_8 x_3_9) else (wp_X10_mayBeDugOn x_3_0 (f_p0_crew_cell) (f_p0_rock_kind) (fun (r_18 : Int32) => (if r_18 = 0 then (wl_X9_priceAll_T_46 d f_p0_crew_cell f_h0_told x_3_0 x_3_2 x_3_4 r_18 (fun (x_46_0 : Int32) (x_46_1 : Nat → Int32) (x_46_2 : Nat → Int32) => (wl_X9_priceAll_T_3 d p0_crew_count f_p0_crew_cell p0_rock_dug f_p0_rock_kind f_h0_told p1_done p1_latest p1_law_clauses p1_law_length n_p1_law_heads f_p1_law_heads n_p1_law_code f_p1_law_code p0_folk_listeners f_p0_folk_column f_p0_rock_hard f_p0_rock_water f_p0_term f_p0_crew_buckets Qb n (x_3_0 + 1) x_46_1 x_3_2 x_46_2 x_3_4 x_3_5 x_3_6 x_3_7 x_3_8 x_3_9)) 1000000000000 0 x_3_1 x_3_3) else (if d ≤ 0 then (wl_X9_priceAll_T_46a d f_p0_crew_cell f_h0_told x_3_0 x_3_2 x_3_4 r_18 (fun (x_46_0 : Int32) (x_46_1 : Nat → Int32) (x_46_2 : Nat → Int32) => (wl_X9_priceAll_T_3 d p0_crew_count f_p0_crew_cell p0_rock_dug f_p0_rock_kind f_h0_told p1_done p1_latest p1_law_clauses p1_law_length n_p1_law_heads f_p1_law_heads n_p1_law_code f_p1_law_code p0_folk_listeners f_p0_folk_column f_p0_rock_hard f_p0_rock_water f_p0_term f_p0_crew_buckets Qb n (x_3_0 + 1) x_46_1 x_3_2 x_46_2 x_3_4 x_3_5 x_3_6 x_3_7 x_3_8 x_3_9)) 1000000000000 0 x_3_1 x_3_3) else (wp_X9_weigh_T x_3_0 p0_rock_dug x_3_5 x_3_6 x_3_7 p1_done p1_latest x_3_8 (f_p0_rock_kind) p1_law_clauses p1_law_length n_p1_law_heads (f_p1_law_heads) n_p1_law_code (f_p1_law_code) (x_3_9) p0_folk_listeners (f_p0_folk_column) (f_p0_rock_hard) (f_p0_rock_water) (f_p0_term) p0_crew_count (f_p0_crew_cell) (f_p0_crew_buckets) (x_3_2) (x_3_4) (un7 (fun (u_40_0 : Int32) (u_40_1 : Int32) (u_40_2 : Int32) (u_40_3 : Int32) (u_40_4 : Nat → Int64) (u_40_5 : Nat → Int32) (u_40_6 : Nat → Int32) => (wl_X9_priceAll_T_46b d f_p0_crew_cell f_h0_told x_3_0 r_18 u_40_5 u_40_6 (fun (x_46_0 : Int32) (x_46_1 : Nat → Int32) (x_46_2 : Nat → Int32) => (wl_X9_priceAll_T_3 d p0_crew_count f_p0_crew_cell p0_rock_dug f_p0_rock_kind f_h0_told p1_done p1_latest p1_law_clauses p1_law_length n_p1_law_heads f_p1_law_heads n_p1_law_code f_p1_law_code p0_folk_listeners f_p0_folk_column f_p0_rock_hard f_p0_rock_water f_p0_term f_p0_crew_buckets Qb n (x_3_0 + 1) x_46_1 u_40_5 x_46_2 u_40_6 u_40_0 u_40_1 u_40_2 u_40_3 u_40_4)) 1000000000000 0 x_3_1 x_3_3)))))))))
set_option maxRecDepth 100000 in
def wp_X9_priceAll_T (d : Int32) (p0_crew_count : Int32) (f_p0_crew_cell : Nat → Int32) (p0_rock_dug : Int64) (f_p0_rock_kind : Nat → Int32) (f_h0_price : Nat → Int32) (f_h0_told : Nat → Int32) (f_h0_cost : Nat → Int32) (f_h0_left : Nat → Int32) (f_h0_endsWay : Nat → Int32) (p1_cell : Int32) (p1_shaft : Int32) (p1_kind : Int32) (p1_done : Int32) (p1_latest : Int32) (p1_value : Int32) (p1_law_clauses : Int32) (p1_law_length : Int32) (n_p1_law_heads : Nat) (f_p1_law_heads : Nat → Int32) (n_p1_law_code : Nat) (f_p1_law_code : Nat → Int32) (f_p1_stack : Nat → Int64) (p0_folk_listeners : Int32) (f_p0_folk_column : Nat → Int32) (f_p0_rock_hard : Nat → Int32) (f_p0_rock_water : Nat → Int32) (f_p0_term : Nat → Int32) (f_p0_crew_buckets : Nat → Int32) (Q : ((Nat → Int32) × (Nat → Int32) × (Nat → Int32) × (Nat → Int32) × Int32 × Int32 × Int32 × Int32 × (Nat → Int64)) → Prop) : Prop := (wl_X9_priceAll_T_3 d p0_crew_count f_p0_crew_cell p0_rock_dug f_p0_rock_kind f_h0_told p1_done p1_latest p1_law_clauses p1_law_length n_p1_law_heads f_p1_law_heads n_p1_law_code f_p1_law_code p0_folk_listeners f_p0_folk_column f_p0_rock_hard f_p0_rock_water f_p0_term f_p0_crew_buckets (fun (x_3_0 : Int32) (x_3_1 : Nat → Int32) (x_3_2 : Nat → Int32) (x_3_3 : Nat → Int32) (x_3_4 : Nat → Int32) (x_3_5 : Int32) (x_3_6 : Int32) (x_3_7 : Int32) (x_3_8 : Int32) (x_3_9 : Nat → Int64) => (Q (x_3_1, x_3_2, x_3_3, x_3_4, x_3_5, x_3_6, x_3_7, x_3_8, x_3_9))) 1000000000000 0 f_h0_price f_h0_cost f_h0_left f_h0_endsWay p1_cell p1_shaft p1_kind p1_value f_p1_stack)
set_option maxRecDepth 100000 in
def wp_X11_at_T (a : Int32) (b : Int32) (h0_site_world : Nat) (h0_site_world_lawCount : Int32) (h0_site_world_force : Int32) (f_h0_site_world_laws : Nat → Option Nat) (h0_asker_world : Value) (h0_asker_law : Value) (h0_asker_cell : Int32) (h0_asker_shaft : Int32) (h0_asker_kind : Int32) (h0_asker_done : Int32) (h0_asker_latest : Int32) (h0_asker_value : Int32) (h0_site_world_rock_dug : Int64) (f_h0_site_world_rock_kind : Nat → Int32) (f_h0_site_world_rock_hard : Nat → Int32) (f_h0_site_world_rock_water : Nat → Int32) (t : Nat) (t_clauses : Int32) (t_length : Int32) (n_t_heads : Nat) (f_t_heads : Nat → Int32) (n_t_code : Nat) (f_t_code : Nat → Int32) (f_h0_asker_stack : Nat → Int64) (h0_site_world_folk_listeners : Int32) (f_h0_site_world_folk_column : Nat → Int32) (f_h0_site_world_term : Nat → Int32) (h0_site_world_crew_count : Int32) (f_h0_site_world_crew_cell : Nat → Int32) (f_h0_site_world_crew_buckets : Nat → Int32) (Q : Int32 → (Value × Value × Int32 × Int32 × Int32 × Int32 × (Nat → Int64)) → Prop) : Prop := (wp_X11_isWithin a 40 (fun (r_3 : Int32) => (if r_3 = 0 then (Q (-1) (h0_asker_world, h0_asker_law, h0_asker_cell, h0_asker_shaft, h0_asker_kind, h0_asker_value, f_h0_asker_stack)) else (wp_X10_lawInForce_T h0_site_world_lawCount h0_site_world_force (f_h0_site_world_laws) t (wp_X0_turnTo_T (fun (u_28 : Unit) => (if b = 0 then (vp_in a 40 ∧ (Q (f_h0_site_world_rock_kind a.toNatClampNeg) ((Value.ref h0_site_world), (Value.ref t), h0_asker_cell, h0_asker_shaft, h0_asker_kind, h0_asker_value, f_h0_asker_stack))) else (if b = 1 then (vp_in a 40 ∧ (Q (f_h0_site_world_rock_hard a.toNatClampNeg) ((Value.ref h0_site_world), (Value.ref t), h0_asker_cell, h0_asker_shaft, h0_asker_kind, h0_asker_value, f_h0_asker_stack))) else (if b = 2 then (vp_in a 40 ∧ (Q (f_h0_site_world_rock_water a.toNatClampNeg) ((Value.ref h0_site_world), (Value.ref t), h0_asker_cell, h0_asker_shaft, h0_asker_kind, h0_asker_value, f_h0_asker_stack))) else (if b = 3 then (wp_X6_isDug a h0_site_world_rock_dug (fun (r_88 : Int32) => (if r_88 = 0 then (Q 0 ((Value.ref h0_site_world), (Value.ref t), h0_asker_cell, h0_asker_shaft, h0_asker_kind, h0_asker_value, f_h0_asker_stack)) else (Q 1 ((Value.ref h0_site_world), (Value.ref t), h0_asker_cell, h0_asker_shaft, h0_asker_kind, h0_asker_value, f_h0_asker_stack))))) else (if b = 4 then (vp_in a 40 ∧ (wp_X0_saysOf_T a (f_h0_site_world_rock_kind a.toNatClampNeg) h0_asker_done h0_asker_latest h0_asker_value t_clauses t_length n_t_heads (f_t_heads) n_t_code (f_t_code) (f_h0_asker_stack) h0_site_world_folk_listeners (f_h0_site_world_folk_column) (f_h0_site_world_rock_hard) (f_h0_site_world_rock_water) (f_h0_site_world_term) h0_site_world_crew_count (f_h0_site_world_crew_cell) (f_h0_site_world_crew_buckets) (fun (r_114 : Int32) => (un5 (fun (u_114_0 : Int32) (u_114_1 : Int32) (u_114_2 : Int32) (u_114_3 : Int32) (u_114_4 : Nat → Int64) => (Q r_114 ((Value.ref h0_site_world), (Value.ref t), u_114_0, u_114_1, u_114_2, u_114_3, u_114_4))))))) else (if b = 5 then (vp_in a 40 ∧ (wp_X0_losesOf_T a (f_h0_site_world_rock_kind a.toNatClampNeg) h0_asker_done h0_asker_latest h0_asker_value t_clauses t_length n_t_heads (f_t_heads) n_t_code (f_t_code) (f_h0_asker_stack) h0_site_world_folk_listeners (f_h0_site_world_folk_column) (f_h0_site_world_rock_hard) (f_h0_site_world_rock_water) (f_h0_site_world_term) h0_site_world_crew_count (f_h0_site_world_crew_cell) (f_h0_site_world_crew_buckets) (fun (r_132 : Int32) => (un5 (fun (u_132_0 : Int32) (u_132_1 : Int32) (u_132_2 : Int32) (u_132_3 : Int32) (u_132_4 : Nat → Int64) => (Q r_132 ((Value.ref h0_site_world), (Value.ref t), u_132_0, u_132_1, u_132_2, u_132_3, u_132_4))))))) else (Q (-1) ((Value.ref h0_site_world), (Value.ref t), h0_asker_cell, h0_asker_shaft, h0_asker_kind, h0_asker_value, f_h0_asker_stack))))))))))))))
set_option maxRecDepth 100000 in
def wp_X11_asks_T (a : Int32) (b : Int32) (d : Int32) (h0_site_world : Nat) (h0_site_world_lawCount : Int32) (h0_site_world_force : Int32) (h0_site_world_crew_count : Int32) (f_h0_site_world_laws : Nat → Option Nat) (h0_asker_world : Value) (h0_asker_law : Value) (h0_asker_cell : Int32) (h0_asker_shaft : Int32) (h0_asker_kind : Int32) (h0_asker_done : Int32) (h0_asker_latest : Int32) (h0_asker_value : Int32) (f_h0_site_world_rock_kind : Nat → Int32) (f_h0_site_world_rock_hard : Nat → Int32) (t : Nat) (t_clauses : Int32) (t_length : Int32) (n_t_heads : Nat) (f_t_heads : Nat → Int32) (n_t_code : Nat) (f_t_code : Nat → Int32) (f_h0_asker_stack : Nat → Int64) (h0_site_world_folk_listeners : Int32) (f_h0_site_world_folk_column : Nat → Int32) (f_h0_site_world_rock_water : Nat → Int32) (f_h0_site_world_term : Nat → Int32) (f_h0_site_world_crew_cell : Nat → Int32) (f_h0_site_world_crew_buckets : Nat → Int32) (Q : Int32 → (Value × Value × Int32 × Int32 × Int32 × Int32 × (Nat → Int64)) → Prop) : Prop := (wp_X11_isWithin a h0_site_world_crew_count (fun (r_18 : Int32) => (if r_18 = 0 then (Q (-1) (h0_asker_world, h0_asker_law, h0_asker_cell, h0_asker_shaft, h0_asker_kind, h0_asker_value, f_h0_asker_stack)) else (wp_X11_isWithin b 40 (fun (r_27 : Int32) => (if r_27 = 0 then (Q (-1) (h0_asker_world, h0_asker_law, h0_asker_cell, h0_asker_shaft, h0_asker_kind, h0_asker_value, f_h0_asker_stack)) else (wp_X10_lawInForce_T h0_site_world_lawCount h0_site_world_force (f_h0_site_world_laws) t (wp_X0_turnTo_T (fun (u_46 : Unit) => (if d = 0 then (wp_X0_digsOf_T a b h0_asker_done h0_asker_latest h0_asker_value (f_h0_site_world_rock_kind) (f_h0_site_world_rock_hard) t_clauses t_length n_t_heads (f_t_heads) n_t_code (f_t_code) (f_h0_asker_stack) h0_site_world_folk_listeners (f_h0_site_world_folk_column) (f_h0_site_world_rock_water) (f_h0_site_world_term) h0_site_world_crew_count (f_h0_site_world_crew_cell) (f_h0_site_world_crew_buckets) (fun (r_82 : Int32) => (un5 (fun (u_82_0 : Int32) (u_82_1 : Int32) (u_82_2 : Int32) (u_82_3 : Int32) (u_82_4 : Nat → Int64) => (Q r_82 ((Value.ref h0_site_world), (Value.ref t), u_82_0, u_82_1, u_82_2, u_82_3, u_82_4)))))) else (if d = 1 then (wp_X0_passesOf_T a b h0_asker_cell h0_asker_shaft h0_asker_kind h0_asker_done h0_asker_latest h0_asker_value (f_h0_site_world_rock_kind) t_clauses t_length n_t_heads (f_t_heads) n_t_code (f_t_code) (f_h0_asker_stack) h0_site_world_folk_listeners (f_h0_site_world_folk_column) (f_h0_site_world_rock_hard) (f_h0_site_world_rock_water) (f_h0_site_world_term) h0_site_world_crew_count (f_h0_site_world_crew_cell) (f_h0_site_world_crew_buckets) (fun (r_92 : Int32) => (un5 (fun (u_92_0 : Int32) (u_92_1 : Int32) (u_92_2 : Int32) (u_92_3 : Int32) (u_92_4 : Nat → Int64) => (if r_92 = 0 then (Q 0 ((Value.ref h0_site_world), (Value.ref t), u_92_0, u_92_1, u_92_2, u_92_3, u_92_4)) else (Q 1 ((Value.ref h0_site_world), (Value.ref t), u_92_0, u_92_1, u_92_2, u_92_3, u_92_4))))))) else (if d = 2 then (wp_X0_givesOf_T a b h0_asker_done h0_asker_latest h0_asker_value (f_h0_site_world_rock_kind) t_clauses t_length n_t_heads (f_t_heads) n_t_code (f_t_code) (f_h0_asker_stack) h0_site_world_folk_listeners (f_h0_site_world_folk_column) (f_h0_site_world_rock_hard) (f_h0_site_world_rock_water) (f_h0_site_world_term) h0_site_world_crew_count (f_h0_site_world_crew_cell) (f_h0_site_world_crew_buckets) (fun (r_110 : Int32) => (un5 (fun (u_110_0 : Int32) (u_110_1 : Int32) (u_110_2 : Int32) (u_110_3 : Int32) (u_110_4 : Nat → Int64) => (Q r_110 ((Value.ref h0_site_world), (Value.ref t), u_110_0, u_110_1, u_110_2, u_110_3, u_110_4)))))) else (Q (-1) ((Value.ref h0_site_world), (Value.ref t), h0_asker_cell, h0_asker_shaft, h0_asker_kind, h0_asker_value, f_h0_asker_stack))))))))))))))
set_option maxRecDepth 100000 in
def wp_X11_loud_T (a : Int32) (b : Int32) (h0_site_world : Nat) (h0_site_world_lawCount : Int32) (h0_site_world_force : Int32) (f_h0_site_world_laws : Nat → Option Nat) (h0_asker_world : Value) (h0_asker_law : Value) (h0_asker_cell : Int32) (h0_asker_shaft : Int32) (h0_asker_kind : Int32) (h0_asker_done : Int32) (h0_asker_latest : Int32) (h0_asker_value : Int32) (f_h0_site_world_rock_kind : Nat → Int32) (t : Nat) (t_clauses : Int32) (t_length : Int32) (n_t_heads : Nat) (f_t_heads : Nat → Int32) (n_t_code : Nat) (f_t_code : Nat → Int32) (f_h0_asker_stack : Nat → Int64) (h0_site_world_folk_listeners : Int32) (f_h0_site_world_folk_column : Nat → Int32) (f_h0_site_world_rock_hard : Nat → Int32) (f_h0_site_world_rock_water : Nat → Int32) (f_h0_site_world_term : Nat → Int32) (h0_site_world_crew_count : Int32) (f_h0_site_world_crew_cell : Nat → Int32) (f_h0_site_world_crew_buckets : Nat → Int32) (Q : Int32 → (Value × Value × Int32 × Int32 × Int32 × Int32 × (Nat → Int64)) → Prop) : Prop := (wp_X11_isWithin a 40 (fun (r_3 : Int32) => (if r_3 = 0 then (Q (-100000) (h0_asker_world, h0_asker_law, h0_asker_cell, h0_asker_shaft, h0_asker_kind, h0_asker_value, f_h0_asker_stack)) else (wp_X11_isWithin b 8 (fun (r_12 : Int32) => (if r_12 = 0 then (Q (-100000) (h0_asker_world, h0_asker_law, h0_asker_cell, h0_asker_shaft, h0_asker_kind, h0_asker_value, f_h0_asker_stack)) else (wp_X10_lawInForce_T h0_site_world_lawCount h0_site_world_force (f_h0_site_world_laws) t (wp_X0_turnTo_T (fun (u_39 : Unit) => (vp_in a 40 ∧ (wp_X0_saysOf_T a (f_h0_site_world_rock_kind a.toNatClampNeg) h0_asker_done h0_asker_latest h0_asker_value t_clauses t_length n_t_heads (f_t_heads) n_t_code (f_t_code) (f_h0_asker_stack) h0_site_world_folk_listeners (f_h0_site_world_folk_column) (f_h0_site_world_rock_hard) (f_h0_site_world_rock_water) (f_h0_site_world_term) h0_site_world_crew_count (f_h0_site_world_crew_cell) (f_h0_site_world_crew_buckets) (fun (r_60 : Int32) => (un5 (fun (u_60_0 : Int32) (u_60_1 : Int32) (u_60_2 : Int32) (u_60_3 : Int32) (u_60_4 : Nat → Int64) => (wp_X11_stepsTo a b (fun (r_65 : Int32) => (wp_X0_losesOf_T a (f_h0_site_world_rock_kind a.toNatClampNeg) h0_asker_done h0_asker_latest u_60_3 t_clauses t_length n_t_heads (f_t_heads) n_t_code (f_t_code) (u_60_4) h0_site_world_folk_listeners (f_h0_site_world_folk_column) (f_h0_site_world_rock_hard) (f_h0_site_world_rock_water) (f_h0_site_world_term) h0_site_world_crew_count (f_h0_site_world_crew_cell) (f_h0_site_world_crew_buckets) (fun (r_75 : Int32) => (un5 (fun (u_75_0 : Int32) (u_75_1 : Int32) (u_75_2 : Int32) (u_75_3 : Int32) (u_75_4 : Nat → Int64) => (Q (r_60 - (r_65 * r_75)) ((Value.ref h0_site_world), (Value.ref t), u_75_0, u_75_1, u_75_2, u_75_3, u_75_4))))))))))))))))))))))
set_option maxRecDepth 100000 in
def wp_X11_dig_T (a : Int32) (b : Int32) (h0_site_world : Nat) (h0_site_world_lawCount : Int32) (h0_site_world_force : Int32) (h0_site_world_crew_count : Int32) (f_h0_site_world_crew_cell : Nat → Int32) (h0_site_world_rock_dug : Int64) (f_h0_site_world_rock_kind : Nat → Int32) (f_h0_site_world_laws : Nat → Option Nat) (h0_asker_world : Value) (h0_asker_law : Value) (h0_asker_cell : Int32) (h0_asker_shaft : Int32) (h0_asker_kind : Int32) (h0_asker_done : Int32) (h0_asker_latest : Int32) (h0_asker_value : Int32) (f_h0_site_world_term : Nat → Int32) (f_h0_site_world_rock_hard : Nat → Int32) (t : Nat) (t_clauses : Int32) (t_length : Int32) (n_t_heads : Nat) (f_t_heads : Nat → Int32) (n_t_code : Nat) (f_t_code : Nat → Int32) (f_h0_asker_stack : Nat → Int64) (h0_site_world_folk_listeners : Int32) (f_h0_site_world_folk_column : Nat → Int32) (f_h0_site_world_rock_water : Nat → Int32) (f_h0_site_world_crew_buckets : Nat → Int32) (h0_site_diary_kept : Int32) (h0_site_diary_latest : Int32) (f_h0_site_diary_deed : Nat → Int32) (f_h0_site_diary_whose : Nat → Int32) (f_h0_site_diary_before : Nat → Int32) (f_h0_site_diary_bucketsBefore : Nat → Int32) (f_h0_site_diary_dayBefore : Nat → Int32) (f_h0_refusals : Nat → Int32) (Q : Int32 → (Int32 × (Nat → Int32) × Int64 × Value × Value × Int32 × Int32 × Int32 × Int32 × (Nat → Int32) × (Nat → Int64) × Int32 × Int32 × (Nat → Int32) × (Nat → Int32) × (Nat → Int32) × (Nat → Int32) × (Nat → Int32) × (Nat → Int32)) → Prop) : Prop := (wp_X7_tryDig_T a b h0_site_world h0_site_world_lawCount h0_site_world_force h0_site_world_crew_count (f_h0_site_world_crew_cell) h0_site_world_rock_dug (f_h0_site_world_rock_kind) (f_h0_site_world_laws) h0_asker_world h0_asker_law h0_asker_cell h0_asker_shaft h0_asker_kind h0_asker_done h0_asker_latest h0_asker_value (f_h0_site_world_term) (f_h0_site_world_rock_hard) t t_clauses t_length n_t_heads (f_t_heads) n_t_code (f_t_code) (f_h0_asker_stack) h0_site_world_folk_listeners (f_h0_site_world_folk_column) (f_h0_site_world_rock_water) (f_h0_site_world_crew_buckets) h0_site_diary_kept h0_site_diary_latest (f_h0_site_diary_deed) (f_h0_site_diary_whose) (f_h0_site_diary_before) (f_h0_site_diary_bucketsBefore) (f_h0_site_diary_dayBefore) (fun (r_7 : Int32) => (un17 (fun (u_7_0 : Nat → Int32) (u_7_1 : Int64) (u_7_2 : Value) (u_7_3 : Value) (u_7_4 : Int32) (u_7_5 : Int32) (u_7_6 : Int32) (u_7_7 : Int32) (u_7_8 : Nat → Int32) (u_7_9 : Nat → Int64) (u_7_10 : Int32) (u_7_11 : Int32) (u_7_12 : Nat → Int32) (u_7_13 : Nat → Int32) (u_7_14 : Nat → Int32) (u_7_15 : Nat → Int32) (u_7_16 : Nat → Int32) => (wp_X11_settle r_7 (f_h0_refusals) (fun (r_10 : Int32) => (un2 (fun (u_10_0 : Int32) (u_10_1 : Nat → Int32) => (Q r_10 (u_10_0, u_7_0, u_7_1, u_7_2, u_7_3, u_7_4, u_7_5, u_7_6, u_7_7, u_7_8, u_7_9, u_7_10, u_7_11, u_7_12, u_7_13, u_7_14, u_7_15, u_7_16, u_10_1))))))))))
set_option maxRecDepth 100000 in
def wp_X11_haul_T (a : Int32) (h0_site_world : Nat) (h0_site_world_lawCount : Int32) (h0_site_world_force : Int32) (h0_site_world_crew_count : Int32) (f_h0_site_world_crew_cell : Nat → Int32) (f_h0_site_world_term : Nat → Int32) (f_h0_site_world_rock_kind : Nat → Int32) (f_h0_site_world_laws : Nat → Option Nat) (h0_asker_world : Value) (h0_asker_law : Value) (h0_asker_cell : Int32) (h0_asker_shaft : Int32) (h0_asker_kind : Int32) (h0_asker_done : Int32) (h0_asker_latest : Int32) (h0_asker_value : Int32) (t : Nat) (t_clauses : Int32) (t_length : Int32) (n_t_heads : Nat) (f_t_heads : Nat → Int32) (n_t_code : Nat) (f_t_code : Nat → Int32) (f_h0_asker_stack : Nat → Int64) (h0_site_world_folk_listeners : Int32) (f_h0_site_world_folk_column : Nat → Int32) (f_h0_site_world_rock_hard : Nat → Int32) (f_h0_site_world_rock_water : Nat → Int32) (f_h0_site_world_crew_buckets : Nat → Int32) (h0_site_diary_kept : Int32) (h0_site_diary_latest : Int32) (f_h0_site_diary_deed : Nat → Int32) (f_h0_site_diary_whose : Nat → Int32) (f_h0_site_diary_before : Nat → Int32) (f_h0_site_diary_bucketsBefore : Nat → Int32) (f_h0_site_diary_dayBefore : Nat → Int32) (f_h0_refusals : Nat → Int32) (Q : Int32 → (Int32 × (Nat → Int32) × Value × Value × Int32 × Int32 × Int32 × Int32 × (Nat → Int64) × (Nat → Int32) × (Nat → Int32) × Int32 × Int32 × (Nat → Int32) × (Nat → Int32) × (Nat → Int32) × (Nat → Int32) × (Nat → Int32) × (Nat → Int32)) → Prop) : Prop := (wp_X7_tryHaul_T a h0_site_world h0_site_world_lawCount h0_site_world_force h0_site_world_crew_count (f_h0_site_world_crew_cell) (f_h0_site_world_term) (f_h0_site_world_rock_kind) (f_h0_site_world_laws) h0_asker_world h0_asker_law h0_asker_cell h0_asker_shaft h0_asker_kind h0_asker_done h0_asker_latest h0_asker_value t t_clauses t_length n_t_heads (f_t_heads) n_t_code (f_t_code) (f_h0_asker_stack) h0_site_world_folk_listeners (f_h0_site_world_folk_column) (f_h0_site_world_rock_hard) (f_h0_site_world_rock_water) (f_h0_site_world_crew_buckets) h0_site_diary_kept h0_site_diary_latest (f_h0_site_diary_deed) (f_h0_site_diary_whose) (f_h0_site_diary_before) (f_h0_site_diary_bucketsBefore) (f_h0_site_diary_dayBefore) (fun (r_6 : Int32) => (un17 (fun (u_6_0 : Nat → Int32) (u_6_1 : Value) (u_6_2 : Value) (u_6_3 : Int32) (u_6_4 : Int32) (u_6_5 : Int32) (u_6_6 : Int32) (u_6_7 : Nat → Int64) (u_6_8 : Nat → Int32) (u_6_9 : Nat → Int32) (u_6_10 : Int32) (u_6_11 : Int32) (u_6_12 : Nat → Int32) (u_6_13 : Nat → Int32) (u_6_14 : Nat → Int32) (u_6_15 : Nat → Int32) (u_6_16 : Nat → Int32) => (wp_X11_settle r_6 (f_h0_refusals) (fun (r_9 : Int32) => (un2 (fun (u_9_0 : Int32) (u_9_1 : Nat → Int32) => (Q r_9 (u_9_0, u_6_0, u_6_1, u_6_2, u_6_3, u_6_4, u_6_5, u_6_6, u_6_7, u_6_8, u_6_9, u_6_10, u_6_11, u_6_12, u_6_13, u_6_14, u_6_15, u_6_16, u_9_1))))))))))
set_option maxRecDepth 100000 in
def wp_X11_quiet_T (a : Int32) (b : Int32) (d : Int32) (h0_site_world : Nat) (h0_site_world_lawCount : Int32) (h0_site_world_force : Int32) (h0_site_world_folk_listeners : Int32) (h0_site_world_folk_noises : Int32) (h0_site_world_folk_hushed : Int32) (f_h0_site_world_rock_kind : Nat → Int32) (f_h0_site_world_laws : Nat → Option Nat) (h0_asker_world : Value) (h0_asker_law : Value) (h0_asker_cell : Int32) (h0_asker_shaft : Int32) (h0_asker_kind : Int32) (h0_asker_done : Int32) (h0_asker_latest : Int32) (h0_asker_value : Int32) (t : Nat) (t_clauses : Int32) (t_length : Int32) (n_t_heads : Nat) (f_t_heads : Nat → Int32) (n_t_code : Nat) (f_t_code : Nat → Int32) (f_h0_asker_stack : Nat → Int64) (f_h0_site_world_folk_column : Nat → Int32) (f_h0_site_world_rock_hard : Nat → Int32) (f_h0_site_world_rock_water : Nat → Int32) (f_h0_site_world_term : Nat → Int32) (h0_site_world_crew_count : Int32) (f_h0_site_world_crew_cell : Nat → Int32) (f_h0_site_world_crew_buckets : Nat → Int32) (f_h0_ears_said : Nat → Int32) (f_h0_ears_lost : Nat → Int32) (f_h0_site_world_folk_ear : Nat → Int32) (f_h0_site_world_folk_noiseColumn : Nat → Int32) (f_h0_site_world_folk_noiseLoud : Nat → Int32) (Q : Int32 → (Value × Value × Int32 × Int32 × Int32 × Int32 × (Nat → Int64) × (Nat → Int32) × (Nat → Int32)) → Prop) : Prop := (jn (fun (y_31 : Int32) => (if y_31 = 0 then (Q (-1) (h0_asker_world, h0_asker_law, h0_asker_cell, h0_asker_shaft, h0_asker_kind, h0_asker_value, f_h0_asker_stack, f_h0_ears_said, f_h0_ears_lost)) else (wp_X11_isWithin b 40 (fun (r_41 : Int32) => (if r_41 = 0 then (Q (-1) (h0_asker_world, h0_asker_law, h0_asker_cell, h0_asker_shaft, h0_asker_kind, h0_asker_value, f_h0_asker_stack, f_h0_ears_said, f_h0_ears_lost)) else (wp_X11_isWithin d 2 (fun (r_49 : Int32) => (if r_49 = 0 then (Q (-1) (h0_asker_world, h0_asker_law, h0_asker_cell, h0_asker_shaft, h0_asker_kind, h0_asker_value, f_h0_asker_stack, f_h0_ears_said, f_h0_ears_lost)) else (vp_in b 40 ∧ (if (f_h0_site_world_rock_kind b.toNatClampNeg) = 3 then (wp_X10_lawInForce_T h0_site_world_lawCount h0_site_world_force (f_h0_site_world_laws) t (wp_X0_turnTo_T (fun (u_82 : Unit) => (wp_X3_fewestToHush_T a b h0_asker_done h0_asker_latest h0_asker_value t_clauses t_length n_t_heads (f_t_heads) n_t_code (f_t_code) (f_h0_asker_stack) h0_site_world_folk_listeners h0_site_world_folk_noises h0_site_world_folk_hushed (f_h0_site_world_folk_column) (f_h0_site_world_rock_hard) (f_h0_site_world_rock_water) (f_h0_site_world_term) h0_site_world_crew_count (f_h0_site_world_crew_cell) (f_h0_site_world_crew_buckets) (f_h0_ears_said) (f_h0_ears_lost) (f_h0_site_world_folk_ear) (f_h0_site_world_folk_noiseColumn) (f_h0_site_world_folk_noiseLoud) (fun (r_93 : Int32) => (un7 (fun (u_93_0 : Int32) (u_93_1 : Int32) (u_93_2 : Int32) (u_93_3 : Int32) (u_93_4 : Nat → Int64) (u_93_5 : Nat → Int32) (u_93_6 : Nat → Int32) => (if r_93 = (-1) then (Q (-1) ((Value.ref h0_site_world), (Value.ref t), u_93_0, u_93_1, u_93_2, u_93_3, u_93_4, u_93_5, u_93_6)) else (if d = 0 then (wp_J6_bitCount_0f7a4 r_93 (fun (r_112 : Int32) => (Q r_112 ((Value.ref h0_site_world), (Value.ref t), u_93_0, u_93_1, u_93_2, u_93_3, u_93_4, u_93_5, u_93_6)))) else (Q r_93 ((Value.ref h0_site_world), (Value.ref t), u_93_0, u_93_1, u_93_2, u_93_3, u_93_4, u_93_5, u_93_6))))))))))) else (Q (-1) (h0_asker_world, h0_asker_law, h0_asker_cell, h0_asker_shaft, h0_asker_kind, h0_asker_value, f_h0_asker_stack, f_h0_ears_said, f_h0_ears_lost)))))))))))) (fun k_31 => (if a < 0 then (k_31 0) else (if (a >>> (h0_site_world_folk_listeners &&& 31)) = 0 then (k_31 1) else (k_31 0)))))
set_option maxRecDepth 100000 in
def wp_X11_hidden_T (h0_site_world_lawCount : Int32) (h0_site_world_force : Int32) (f_h0_site_world_laws : Nat → Option Nat) (h0_asker_cell : Int32) (h0_asker_shaft : Int32) (h0_asker_kind : Int32) (h0_asker_done : Int32) (h0_asker_latest : Int32) (h0_asker_value : Int32) (h0_site_world_rock_dug : Int64) (f_h0_site_world_rock_kind : Nat → Int32) (t : Nat) (t_clauses : Int32) (t_length : Int32) (n_t_heads : Nat) (f_t_heads : Nat → Int32) (n_t_code : Nat) (f_t_code : Nat → Int32) (f_h0_asker_stack : Nat → Int64) (h0_site_world_folk_listeners : Int32) (h0_site_world_folk_hearsay : Int32) (f_h0_site_world_folk_column : Nat → Int32) (f_h0_site_world_rock_hard : Nat → Int32) (f_h0_site_world_rock_water : Nat → Int32) (f_h0_site_world_term : Nat → Int32) (h0_site_world_crew_count : Int32) (f_h0_site_world_crew_cell : Nat → Int32) (f_h0_site_world_crew_buckets : Nat → Int32) (f_h0_ears_said : Nat → Int32) (f_h0_ears_lost : Nat → Int32) (f_h0_site_world_folk_hearsayColumn : Nat → Int32) (f_h0_site_world_folk_hearsayLoud : Nat → Int32) (Q : Int64 → (Int32 × Int32 × Int32 × Int32 × (Nat → Int64) × (Nat → Int32) × (Nat → Int32)) → Prop) : Prop := (wp_X3_hiddenCells_T h0_site_world_lawCount h0_site_world_force (f_h0_site_world_laws) h0_asker_cell h0_asker_shaft h0_asker_kind h0_asker_done h0_asker_latest h0_asker_value h0_site_world_rock_dug (f_h0_site_world_rock_kind) t t_clauses t_length n_t_heads (f_t_heads) n_t_code (f_t_code) (f_h0_asker_stack) h0_site_world_folk_listeners h0_site_world_folk_hearsay (f_h0_site_world_folk_column) (f_h0_site_world_rock_hard) (f_h0_site_world_rock_water) (f_h0_site_world_term) h0_site_world_crew_count (f_h0_site_world_crew_cell) (f_h0_site_world_crew_buckets) (f_h0_ears_said) (f_h0_ears_lost) (f_h0_site_world_folk_hearsayColumn) (f_h0_site_world_folk_hearsayLoud) (fun (r_11 : Int64) => (un7 (fun (u_11_0 : Int32) (u_11_1 : Int32) (u_11_2 : Int32) (u_11_3 : Int32) (u_11_4 : Nat → Int64) (u_11_5 : Nat → Int32) (u_11_6 : Nat → Int32) => (Q r_11 (u_11_0, u_11_1, u_11_2, u_11_3, u_11_4, u_11_5, u_11_6))))))
set_option maxRecDepth 100000 in
def wl_X11_next_T_52 (y_26_0 : Int64) (y_26_8 : Nat → Int32) (y_26_9 : Nat → Int32) (Qb : Int32 → Int32 → Int32 → (Nat → Int32) → Prop) : Nat → Int32 → Int32 → Int32 → (Nat → Int32) → Prop
  | 0, _, _, _, _ => False
  | n + 1, x_52_0, x_52_1, x_52_2, x_52_3 => (if 8 ≤ x_52_0 then (Qb x_52_0 x_52_1 x_52_2 x_52_3) else (wp_X3_mostAlike y_26_0 x_52_0 (x_52_3) (y_26_8) (y_26_9) (fun (r_66 : Int32) => (fun (u_66 : Nat → Int32) => (if x_52_1 ≤ r_66 then (wl_X11_next_T_52 y_26_0 y_26_8 y_26_9 Qb n (x_52_0 + 1) x_52_1 x_52_2 u_66) else (wl_X11_next_T_52 y_26_0 y_26_8 y_26_9 Qb n (x_52_0 + 1) r_66 x_52_0 u_66))))))
set_option maxRecDepth 100000 in
def wp_X11_next_T (a : Int32) (h0_site_world : Nat) (h0_site_world_lawCount : Int32) (h0_site_world_force : Int32) (f_h0_site_world_laws : Nat → Option Nat) (h0_asker_world : Value) (h0_asker_law : Value) (h0_asker_cell : Int32) (h0_asker_shaft : Int32) (h0_asker_kind : Int32) (h0_asker_done : Int32) (h0_asker_latest : Int32) (h0_asker_value : Int32) (h0_site_world_rock_dug : Int64) (f_h0_site_world_rock_kind : Nat → Int32) (t : Nat) (t_clauses : Int32) (t_length : Int32) (n_t_heads : Nat) (f_t_heads : Nat → Int32) (n_t_code : Nat) (f_t_code : Nat → Int32) (f_h0_asker_stack : Nat → Int64) (h0_site_world_folk_listeners : Int32) (h0_site_world_folk_hearsay : Int32) (f_h0_site_world_folk_column : Nat → Int32) (f_h0_site_world_rock_hard : Nat → Int32) (f_h0_site_world_rock_water : Nat → Int32) (f_h0_site_world_term : Nat → Int32) (h0_site_world_crew_count : Int32) (f_h0_site_world_crew_cell : Nat → Int32) (f_h0_site_world_crew_buckets : Nat → Int32) (f_h0_ears_said : Nat → Int32) (f_h0_ears_lost : Nat → Int32) (f_h0_site_world_folk_hearsayColumn : Nat → Int32) (f_h0_site_world_folk_hearsayLoud : Nat → Int32) (f_h0_ears_alike : Nat → Int32) (Q : Int32 → (Value × Value × Int32 × Int32 × Int32 × Int32 × (Nat → Int64) × (Nat → Int32) × (Nat → Int32) × (Nat → Int32)) → Prop) : Prop := (wp_X11_isWithin a 2 (fun (r_2 : Int32) => (jn (un10 (fun (y_26_0 : Int64) (y_26_1 : Value) (y_26_2 : Value) (y_26_3 : Int32) (y_26_4 : Int32) (y_26_5 : Int32) (y_26_6 : Int32) (y_26_7 : Nat → Int64) (y_26_8 : Nat → Int32) (y_26_9 : Nat → Int32) => (if (lg_cmp y_26_0 0) = 0 then (Q (-1) (y_26_1, y_26_2, y_26_3, y_26_4, y_26_5, y_26_6, y_26_7, y_26_8, y_26_9, f_h0_ears_alike)) else (wp_X3_mostAlike y_26_0 0 (f_h0_ears_alike) (y_26_8) (y_26_9) (fun (r_44 : Int32) => (fun (u_44 : Nat → Int32) => (wl_X11_next_T_52 y_26_0 y_26_8 y_26_9 (fun (x_52_0 : Int32) (x_52_1 : Int32) (x_52_2 : Int32) (x_52_3 : Nat → Int32) => (if a = 0 then (Q x_52_2 (y_26_1, y_26_2, y_26_3, y_26_4, y_26_5, y_26_6, y_26_7, y_26_8, y_26_9, x_52_3)) else (Q x_52_1 (y_26_1, y_26_2, y_26_3, y_26_4, y_26_5, y_26_6, y_26_7, y_26_8, y_26_9, x_52_3)))) 1000000000000 1 r_44 0 u_44))))))) (fun k_26 => (if r_2 = 0 then (k_26 (0, h0_asker_world, h0_asker_law, h0_asker_cell, h0_asker_shaft, h0_asker_kind, h0_asker_value, f_h0_asker_stack, f_h0_ears_said, f_h0_ears_lost)) else (wp_X3_hiddenCells_T h0_site_world_lawCount h0_site_world_force (f_h0_site_world_laws) h0_asker_cell h0_asker_shaft h0_asker_kind h0_asker_done h0_asker_latest h0_asker_value h0_site_world_rock_dug (f_h0_site_world_rock_kind) t t_clauses t_length n_t_heads (f_t_heads) n_t_code (f_t_code) (f_h0_asker_stack) h0_site_world_folk_listeners h0_site_world_folk_hearsay (f_h0_site_world_folk_column) (f_h0_site_world_rock_hard) (f_h0_site_world_rock_water) (f_h0_site_world_term) h0_site_world_crew_count (f_h0_site_world_crew_cell) (f_h0_site_world_crew_buckets) (f_h0_ears_said) (f_h0_ears_lost) (f_h0_site_world_folk_hearsayColumn) (f_h0_site_world_folk_hearsayLoud) (fun (r_19 : Int64) => (un7 (fun (u_19_0 : Int32) (u_19_1 : Int32) (u_19_2 : Int32) (u_19_3 : Int32) (u_19_4 : Nat → Int64) (u_19_5 : Nat → Int32) (u_19_6 : Nat → Int32) => (k_26 (r_19, (Value.ref h0_site_world), (Value.ref t), u_19_0, u_19_1, u_19_2, u_19_3, u_19_4, u_19_5, u_19_6)))))))))))
set_option maxRecDepth 100000 in
def wp_X11_findWay_T (a : Int32) (b : Int32) (h0_site_world : Nat) (h0_site_world_lawCount : Int32) (h0_site_world_force : Int32) (h0_site_world_crew_count : Int32) (f_h0_site_world_crew_cell : Nat → Int32) (h0_site_world_rock_dug : Int64) (f_h0_site_world_rock_kind : Nat → Int32) (f_h0_site_world_laws : Nat → Option Nat) (h0_asker_world : Value) (h0_asker_law : Value) (h0_asker_cell : Int32) (h0_asker_shaft : Int32) (h0_asker_kind : Int32) (h0_asker_done : Int32) (h0_asker_latest : Int32) (h0_asker_value : Int32) (h0_ways_days : Int32) (t : Nat) (t_clauses : Int32) (t_length : Int32) (n_t_heads : Nat) (f_t_heads : Nat → Int32) (n_t_code : Nat) (f_t_code : Nat → Int32) (f_h0_asker_stack : Nat → Int64) (h0_site_world_folk_listeners : Int32) (f_h0_site_world_folk_column : Nat → Int32) (f_h0_site_world_rock_hard : Nat → Int32) (f_h0_site_world_rock_water : Nat → Int32) (f_h0_site_world_term : Nat → Int32) (f_h0_site_world_crew_buckets : Nat → Int32) (f_h0_ways_cost : Nat → Int32) (f_h0_ways_endsWay : Nat → Int32) (f_h0_ways_left : Nat → Int32) (Q : Int32 → (Value × Value × Int32 × Int32 × Int32 × Int32 × Int32 × (Nat → Int64) × (Nat → Int32) × (Nat → Int32) × (Nat → Int32)) → Prop) : Prop := (wp_X11_isWithin a h0_site_world_crew_count (fun (r_16 : Int32) => (if r_16 = 0 then (Q 0 (h0_asker_world, h0_asker_law, h0_asker_cell, h0_asker_shaft, h0_asker_kind, h0_asker_value, h0_ways_days, f_h0_asker_stack, f_h0_ways_cost, f_h0_ways_endsWay, f_h0_ways_left)) else (wp_X11_isWithin b 40 (fun (r_25 : Int32) => (if r_25 = 0 then (Q 0 (h0_asker_world, h0_asker_law, h0_asker_cell, h0_asker_shaft, h0_asker_kind, h0_asker_value, h0_ways_days, f_h0_asker_stack, f_h0_ways_cost, f_h0_ways_endsWay, f_h0_ways_left)) else (wp_X10_mayBeDugOn a (f_h0_site_world_crew_cell) (f_h0_site_world_rock_kind) (fun (r_33 : Int32) => (if r_33 = 0 then (Q 0 (h0_asker_world, h0_asker_law, h0_asker_cell, h0_asker_shaft, h0_asker_kind, h0_asker_value, h0_ways_days, f_h0_asker_stack, f_h0_ways_cost, f_h0_ways_endsWay, f_h0_ways_left)) else (wp_X10_lawInForce_T h0_site_world_lawCount h0_site_world_force (f_h0_site_world_laws) t (wp_X0_turnTo_T (fun (u_50 : Unit) => (wp_X9_weigh_T a h0_site_world_rock_dug h0_asker_cell h0_asker_shaft h0_asker_kind h0_asker_done h0_asker_latest h0_asker_value (f_h0_site_world_rock_kind) t_clauses t_length n_t_heads (f_t_heads) n_t_code (f_t_code) (f_h0_asker_stack) h0_site_world_folk_listeners (f_h0_site_world_folk_column) (f_h0_site_world_rock_hard) (f_h0_site_world_rock_water) (f_h0_site_world_term) h0_site_world_crew_count (f_h0_site_world_crew_cell) (f_h0_site_world_crew_buckets) (f_h0_ways_cost) (f_h0_ways_endsWay) (un7 (fun (u_66_0 : Int32) (u_66_1 : Int32) (u_66_2 : Int32) (u_66_3 : Int32) (u_66_4 : Nat → Int64) (u_66_5 : Nat → Int32) (u_66_6 : Nat → Int32) => (vp_in a 6 ∧ (wp_X9_daysTo (f_h0_site_world_crew_cell a.toNatClampNeg) b (u_66_5) (f_h0_ways_left) (u_66_6) (fun (r_87 : Int32) => (fun (u_87 : Nat → Int32) => (if 1000000 ≤ r_87 then (Q 0 ((Value.ref h0_site_world), (Value.ref t), u_66_0, u_66_1, u_66_2, u_66_3, r_87, u_66_4, u_66_5, u_66_6, u_87)) else (Q 1 ((Value.ref h0_site_world), (Value.ref t), u_66_0, u_66_1, u_66_2, u_66_3, r_87, u_66_4, u_66_5, u_66_6, u_87))))))))))))))))))))))
set_option maxRecDepth 100000 in
def wl_X3_measure_T_11 (h0_asker_done : Int32) (h0_asker_latest : Int32) (f_p0_rock_kind : Nat → Int32) (p1_clauses : Int32) (p1_length : Int32) (n_p1_heads : Nat) (f_p1_heads : Nat → Int32) (n_p1_code : Nat) (f_p1_code : Nat → Int32) (p0_folk_listeners : Int32) (f_p0_folk_column : Nat → Int32) (f_p0_rock_hard : Nat → Int32) (f_p0_rock_water : Nat → Int32) (f_p0_term : Nat → Int32) (p0_crew_count : Int32) (f_p0_crew_cell : Nat → Int32) (f_p0_crew_buckets : Nat → Int32) (Qb : Int32 → (Nat → Int64) → (Nat → Int32) → (Nat → Int32) → Int32 → Int32 → Int32 → Int32 → Prop) : Nat → Int32 → (Nat → Int64) → (Nat → Int32) → (Nat → Int32) → Int32 → Int32 → Int32 → Int32 → Prop
  | 0, _, _, _, _, _, _, _, _ => False
  | n + 1, x_11_0, x_11_1, x_11_2, x_11_3, x_11_4, x_11_5, x_11_6, x_11_7 => (if 40 ≤ x_11_0 then (Qb x_11_0 x_11_1 x_11_2 x_11_3 x_11_4 x_11_5 x_11_6 x_11_7) else (vp_in x_11_0 40 ∧ (if (f_p0_rock_kind x_11_0.toNatClampNeg) = 3 then (wp_X3_measureCell_T x_11_0 h0_asker_done h0_asker_latest x_11_7 p1_clauses p1_length n_p1_heads (f_p1_heads) n_p1_code (f_p1_code) (x_11_1) p0_folk_listeners (f_p0_folk_column) (f_p0_rock_hard) (f_p0_rock_water) (f_p0_term) p0_crew_count (f_p0_crew_cell) (f_p0_crew_buckets) (x_11_2) (x_11_3) (un7 (fun (u_32_0 : Int32) (u_32_1 : Int32) (u_32_2 : Int32) (u_32_3 : Int32) (u_32_4 : Nat → Int64) (u_32_5 : Nat → Int32) (u_32_6 : Nat → Int32) => (wl_X3_measure_T_11 h0_asker_done h0_asker_latest f_p0_rock_kind p1_clauses p1_length n_p1_heads f_p1_heads n_p1_code f_p1_code p0_folk_listeners f_p0_folk_column f_p0_rock_hard f_p0_rock_water f_p0_term p0_crew_count f_p0_crew_cell f_p0_crew_buckets Qb n (x_11_0 + 1) u_32_4 u_32_5 u_32_6 u_32_0 u_32_1 u_32_2 u_32_3)))) else (wl_X3_measure_T_11 h0_asker_done h0_asker_latest f_p0_rock_kind p1_clauses p1_length n_p1_heads f_p1_heads n_p1_code f_p1_code p0_folk_listeners f_p0_folk_column f_p0_rock_hard f_p0_rock_water f_p0_term p0_crew_count f_p0_crew_cell f_p0_crew_buckets Qb n (x_11_0 + 1) x_11_1 x_11_2 x_11_3 x_11_4 x_11_5 x_11_6 x_11_7))))
set_option maxRecDepth 100000 in
def wp_X3_measure_T (h0_asker_cell : Int32) (h0_asker_shaft : Int32) (h0_asker_kind : Int32) (h0_asker_done : Int32) (h0_asker_latest : Int32) (h0_asker_value : Int32) (f_p0_rock_kind : Nat → Int32) (p1_clauses : Int32) (p1_length : Int32) (n_p1_heads : Nat) (f_p1_heads : Nat → Int32) (n_p1_code : Nat) (f_p1_code : Nat → Int32) (f_h0_asker_stack : Nat → Int64) (p0_folk_listeners : Int32) (f_p0_folk_column : Nat → Int32) (f_p0_rock_hard : Nat → Int32) (f_p0_rock_water : Nat → Int32) (f_p0_term : Nat → Int32) (p0_crew_count : Int32) (f_p0_crew_cell : Nat → Int32) (f_p0_crew_buckets : Nat → Int32) (f_h0_said : Nat → Int32) (f_h0_lost : Nat → Int32) (Q : (Int32 × Int32 × Int32 × Int32 × (Nat → Int64) × (Nat → Int32) × (Nat → Int32)) → Prop) : Prop := (wp_X0_turnTo_T (fun (u_6 : Unit) => (wl_X3_measure_T_11 h0_asker_done h0_asker_latest f_p0_rock_kind p1_clauses p1_length n_p1_heads f_p1_heads n_p1_code f_p1_code p0_folk_listeners f_p0_folk_column f_p0_rock_hard f_p0_rock_water f_p0_term p0_crew_count f_p0_crew_cell f_p0_crew_buckets (fun (x_11_0 : Int32) (x_11_1 : Nat → Int64) (x_11_2 : Nat → Int32) (x_11_3 : Nat → Int32) (x_11_4 : Int32) (x_11_5 : Int32) (x_11_6 : Int32) (x_11_7 : Int32) => (Q (x_11_4, x_11_5, x_11_6, x_11_7, x_11_1, x_11_2, x_11_3))) 1000000000000 0 f_h0_asker_stack f_h0_said f_h0_lost h0_asker_cell h0_asker_shaft h0_asker_kind h0_asker_value)))
set_option maxRecDepth 100000 in
def wl_X7_runOrders_T_38 (h0_world : Nat) (p0_length : Int32) (n_p0_heads : Nat) (f_p0_heads : Nat → Int32) (n_p0_code : Nat) (f_p0_code : Nat → Int32) (h0_world_lawCount : Int32) (h0_world_force : Int32) (h0_world_folk_listeners : Int32) (h0_world_folk_noises : Int32) (f_h0_world_rock_hard : Nat → Int32) (h0_world_crew_count : Int32) (f_h0_world_rock_kind : Nat → Int32) (f_h0_world_laws : Nat → Option Nat) (t : Nat) (t_clauses : Int32) (t_length : Int32) (n_t_heads : Nat) (f_t_heads : Nat → Int32) (n_t_code : Nat) (f_t_code : Nat → Int32) (f_h0_world_folk_noiseColumn : Nat → Int32) (f_h0_world_folk_noiseLoud : Nat → Int32) (x_12_0 : Int32) (r_23 : Int32) (r_30 : Int32) (Q : Int32 → (Int32 × Int32 × Value × Value × Int32 × Int32 × Int32 × Int32 × Int32 × Int32 × (Nat → Int64) × Int32 × (Nat → Int32) × Int64 × (Nat → Int32) × (Nat → Int32) × (Nat → Int32) × (Nat → Int32) × Int32 × Int32 × (Nat → Int32) × (Nat → Int32) × (Nat → Int32) × (Nat → Int32) × (Nat → Int32)) → Prop) (Qb : Int32 → Int32 → Int32 → Value → Value → Int32 → Int32 → Int32 → Int32 → Int32 → Int32 → (Nat → Int64) → Int32 → (Nat → Int32) → Int64 → (Nat → Int32) → (Nat → Int32) → (Nat → Int32) → (Nat → Int32) → Int32 → Int32 → (Nat → Int32) → (Nat → Int32) → (Nat → Int32) → (Nat → Int32) → (Nat → Int32) → Prop) : Nat → Int32 → Int32 → Int32 → Value → Value → Int32 → Int32 → Int32 → Int32 → Int32 → Int32 → (Nat → Int64) → Int32 → (Nat → Int32) → Int64 → (Nat → Int32) → (Nat → Int32) → (Nat → Int32) → (Nat → Int32) → Int32 → Int32 → (Nat → Int32) → (Nat → Int32) → (Nat → Int32) → (Nat → Int32) → (Nat → Int32) → Prop
  | 0, _, _, _, _, _, _, _, _, _, _, _, _, _, _, _, _, _, _, _, _, _, _, _, _, _, _ => False
  | n + 1, x_38_0, x_38_1, x_38_2, x_38_3, x_38_4, x_38_5, x_38_6, x_38_7, x_38_8, x_38_9, x_38_10, x_38_11, x_38_12, x_38_13, x_38_14, x_38_15, x_38_16, x_38_17, x_38_18, x_38_19, x_38_20, x_38_21, x_38_22, x_38_23, x_38_24, x_38_25 => (if r_23 ≤ x_38_0 then (Qb x_38_0 x_38_1 x_38_2 x_38_3 x_38_4 x_38_5 x_38_6 x_38_7 x_38_8 x_38_9 x_38_10 x_38_11 x_38_12 x_38_13 x_38_14 x_38_15 x_38_16 x_38_17 x_38_18 x_38_19 x_38_20 x_38_21 x_38_22 x_38_23 x_38_24 x_38_25) else (wp_X0_turnToOrders x_38_1 x_38_2 (un2 (fun (u_60_0 : Int32) (u_60_1 : Int32) => (jn (un2 (fun (y_96_0 : Nat → Int64) (y_96_1 : Int32) => (wp_X7_runOrder_T x_12_0 h0_world x_38_2 p0_length n_p0_heads (f_p0_heads) x_38_4 x_38_5 x_38_6 x_38_7 u_60_0 u_60_1 y_96_1 n_p0_code (f_p0_code) (y_96_0) h0_world_lawCount h0_world_force h0_world_folk_listeners h0_world_folk_noises x_38_12 (x_38_13) x_38_14 (f_h0_world_rock_hard) (x_38_15) (x_38_16) h0_world_crew_count (x_38_17) (x_38_18) (f_h0_world_rock_kind) (f_h0_world_laws) t t_clauses t_length n_t_heads (f_t_heads) n_t_code (f_t_code) x_38_19 x_38_20 (x_38_21) (x_38_22) (x_38_23) (x_38_24) (x_38_25) (f_h0_world_folk_noiseColumn) (f_h0_world_folk_noiseLoud) (fun (r_99 : Int32) => (un22 (fun (u_99_0 : Int32) (u_99_1 : Value) (u_99_2 : Value) (u_99_3 : Int32) (u_99_4 : Int32) (u_99_5 : Int32) (u_99_6 : Int32) (u_99_7 : Nat → Int64) (u_99_8 : Int32) (u_99_9 : Nat → Int32) (u_99_10 : Int64) (u_99_11 : Nat → Int32) (u_99_12 : Nat → Int32) (u_99_13 : Nat → Int32) (u_99_14 : Nat → Int32) (u_99_15 : Int32) (u_99_16 : Int32) (u_99_17 : Nat → Int32) (u_99_18 : Nat → Int32) (u_99_19 : Nat → Int32) (u_99_20 : Nat → Int32) (u_99_21 : Nat → Int32) => (if r_99 = 0 then (Q x_12_0 (x_38_1, u_99_0, u_99_1, u_99_2, u_99_3, u_99_4, u_99_5, u_60_0, u_60_1, u_99_6, u_99_7, u_99_8, u_99_9, u_99_10, u_99_11, u_99_12, u_99_13, u_99_14, u_99_15, u_99_16, u_99_17, u_99_18, u_99_19, u_99_20, u_99_21)) else (wl_X7_runOrders_T_38 h0_world p0_length n_p0_heads f_p0_heads n_p0_code f_p0_code h0_world_lawCount h0_world_force h0_world_folk_listeners h0_world_folk_noises f_h0_world_rock_hard h0_world_crew_count f_h0_world_rock_kind f_h0_world_laws t t_clauses t_length n_t_heads f_t_heads n_t_code f_t_code f_h0_world_folk_noiseColumn f_h0_world_folk_noiseLoud x_12_0 r_23 r_30 Q Qb n (x_38_0 + 1) (x_38_1 + 1) u_99_0 u_99_1 u_99_2 u_99_3 u_99_4 u_99_5 u_60_0 u_60_1 u_99_6 u_99_7 u_99_8 u_99_9 u_99_10 u_99_11 u_99_12 u_99_13 u_99_14 u_99_15 u_99_16 u_99_17 u_99_18 u_99_19 u_99_20 u_99_21)))))))) (fun k_96 => (if r_30 = (-1) then (k_96 (x_38_11, x_38_10)) else (wp_X0_reckon r_30 x_38_5 x_38_6 x_38_7 u_60_0 u_60_1 x_38_10 p0_length n_p0_code (f_p0_code) (x_38_11) h0_world_folk_listeners (x_38_13) (f_h0_world_rock_hard) (x_38_15) (x_38_16) h0_world_crew_count (x_38_17) (x_38_18) (fun (r_76 : Int32) => (un2 (fun (u_76_0 : Int32) (u_76_1 : Nat → Int64) => (if r_76 = 0 then (wl_X7_runOrders_T_38 h0_world p0_length n_p0_heads f_p0_heads n_p0_code f_p0_code h0_world_lawCount h0_world_force h0_world_folk_listeners h0_world_folk_noises f_h0_world_rock_hard h0_world_crew_count f_h0_world_rock_kind f_h0_world_laws t t_clauses t_length n_t_heads f_t_heads n_t_code f_t_code f_h0_world_folk_noiseColumn f_h0_world_folk_noiseLoud x_12_0 r_23 r_30 Q Qb n (x_38_0 + 1) x_38_1 x_38_2 (Value.ref h0_world) x_38_4 x_38_5 x_38_6 x_38_7 u_60_0 u_60_1 u_76_0 u_76_1 x_38_12 x_38_13 x_38_14 x_38_15 x_38_16 x_38_17 x_38_18 x_38_19 x_38_20 x_38_21 x_38_22 x_38_23 x_38_24 x_38_25) else (wp_X0_reckoned u_76_0 (fun (r_86 : Int32) => (if r_86 = 1 then (k_96 (u_76_1, u_76_0)) else (wl_X7_runOrders_T_38 h0_world p0_length n_p0_heads f_p0_heads n_p0_code f_p0_code h0_world_lawCount h0_world_force h0_world_folk_listeners h0_world_folk_noises f_h0_world_rock_hard h0_world_crew_count f_h0_world_rock_kind f_h0_world_laws t t_clauses t_length n_t_heads f_t_heads n_t_code f_t_code f_h0_world_folk_noiseColumn f_h0_world_folk_noiseLoud x_12_0 r_23 r_30 Q Qb n (x_38_0 + 1) x_38_1 x_38_2 (Value.ref h0_world) x_38_4 x_38_5 x_38_6 x_38_7 u_60_0 u_60_1 u_76_0 u_76_1 x_38_12 x_38_13 x_38_14 x_38_15 x_38_16 x_38_17 x_38_18 x_38_19 x_38_20 x_38_21 x_38_22 x_38_23 x_38_24 x_38_25))))))))))))))))
set_option maxRecDepth 100000 in
def wl_X7_runOrders_T_12 (h0_world : Nat) (p0_clauses : Int32) (p0_length : Int32) (n_p0_heads : Nat) (f_p0_heads : Nat → Int32) (n_p0_code : Nat) (f_p0_code : Nat → Int32) (h0_world_lawCount : Int32) (h0_world_force : Int32) (h0_world_folk_listeners : Int32) (h0_world_folk_noises : Int32) (f_h0_world_rock_hard : Nat → Int32) (h0_world_crew_count : Int32) (f_h0_world_rock_kind : Nat → Int32) (f_h0_world_laws : Nat → Option Nat) (t : Nat) (t_clauses : Int32) (t_length : Int32) (n_t_heads : Nat) (f_t_heads : Nat → Int32) (n_t_code : Nat) (f_t_code : Nat → Int32) (f_h0_world_folk_noiseColumn : Nat → Int32) (f_h0_world_folk_noiseLoud : Nat → Int32) (Q : Int32 → (Int32 × Int32 × Value × Value × Int32 × Int32 × Int32 × Int32 × Int32 × Int32 × (Nat → Int64) × Int32 × (Nat → Int32) × Int64 × (Nat → Int32) × (Nat → Int32) × (Nat → Int32) × (Nat → Int32) × Int32 × Int32 × (Nat → Int32) × (Nat → Int32) × (Nat → Int32) × (Nat → Int32) × (Nat → Int32)) → Prop) (Qb : Int32 → Int32 → Int32 → Value → Value → Int32 → Int32 → Int32 → Int32 → Int32 → Int32 → (Nat → Int64) → Int32 → (Nat → Int32) → Int64 → (Nat → Int32) → (Nat → Int32) → (Nat → Int32) → (Nat → Int32) → Int32 → Int32 → (Nat → Int32) → (Nat → Int32) → (Nat → Int32) → (Nat → Int32) → (Nat → Int32) → Prop) : Nat → Int32 → Int32 → Int32 → Value → Value → Int32 → Int32 → Int32 → Int32 → Int32 → Int32 → (Nat → Int64) → Int32 → (Nat → Int32) → Int64 → (Nat → Int32) → (Nat → Int32) → (Nat → Int32) → (Nat → Int32) → Int32 → Int32 → (Nat → Int32) → (Nat → Int32) → (Nat → Int32) → (Nat → Int32) → (Nat → Int32) → Prop
  | 0, _, _, _, _, _, _, _, _, _, _, _, _, _, _, _, _, _, _, _, _, _, _, _, _, _, _ => False
  | n + 1, x_12_0, x_12_1, x_12_2, x_12_3, x_12_4, x_12_5, x_12_6, x_12_7, x_12_8, x_12_9, x_12_10, x_12_11, x_12_12, x_12_13, x_12_14, x_12_15, x_12_16, x_12_17, x_12_18, x_12_19, x_12_20, x_12_21, x_12_22, x_12_23, x_12_24, x_12_25 => (if p0_clauses ≤ x_12_0 then (Qb x_12_0 x_12_1 x_12_2 x_12_3 x_12_4 x_12_5 x_12_6 x_12_7 x_12_8 x_12_9 x_12_10 x_12_11 x_12_12 x_12_13 x_12_14 x_12_15 x_12_16 x_12_17 x_12_18 x_12_19 x_12_20 x_12_21 x_12_22 x_12_23 x_12_24 x_12_25) else (wp_X8_headOf x_12_0 4 n_p0_heads (f_p0_heads) (fun (r_23 : Int32) => (wp_X8_headOf x_12_0 3 n_p0_heads (f_p0_heads) (fun (r_30 : Int32) => (wl_X7_runOrders_T_38 h0_world p0_length n_p0_heads f_p0_heads n_p0_code f_p0_code h0_world_lawCount h0_world_force h0_world_folk_listeners h0_world_folk_noises f_h0_world_rock_hard h0_world_crew_count f_h0_world_rock_kind f_h0_world_laws t t_clauses t_length n_t_heads f_t_heads n_t_code f_t_code f_h0_world_folk_noiseColumn f_h0_world_folk_noiseLoud x_12_0 r_23 r_30 Q (fun (x_38_0 : Int32) (x_38_1 : Int32) (x_38_2 : Int32) (x_38_3 : Value) (x_38_4 : Value) (x_38_5 : Int32) (x_38_6 : Int32) (x_38_7 : Int32) (x_38_8 : Int32) (x_38_9 : Int32) (x_38_10 : Int32) (x_38_11 : Nat → Int64) (x_38_12 : Int32) (x_38_13 : Nat → Int32) (x_38_14 : Int64) (x_38_15 : Nat → Int32) (x_38_16 : Nat → Int32) (x_38_17 : Nat → Int32) (x_38_18 : Nat → Int32) (x_38_19 : Int32) (x_38_20 : Int32) (x_38_21 : Nat → Int32) (x_38_22 : Nat → Int32) (x_38_23 : Nat → Int32) (x_38_24 : Nat → Int32) (x_38_25 : Nat → Int32) => (wl_X7_runOrders_T_12 h0_world p0_clauses p0_length n_p0_heads f_p0_heads n_p0_code f_p0_code h0_world_lawCount h0_world_force h0_world_folk_listeners h0_world_folk_noises f_h0_world_rock_hard h0_world_crew_count f_h0_world_rock_kind f_h0_world_laws t t_clauses t_length n_t_heads f_t_heads n_t_code f_t_code f_h0_world_folk_noiseColumn f_h0_world_folk_noiseLoud Q Qb n (x_12_0 + 1) x_38_1 x_38_2 x_38_3 x_38_4 x_38_5 x_38_6 x_38_7 x_38_8 x_38_9 x_38_10 x_38_11 x_38_12 x_38_13 x_38_14 x_38_15 x_38_16 x_38_17 x_38_18 x_38_19 x_38_20 x_38_21 x_38_22 x_38_23 x_38_24 x_38_25)) 1000000000000 0 x_12_1 x_12_2 x_12_3 x_12_4 x_12_5 x_12_6 x_12_7 x_12_8 x_12_9 x_12_10 x_12_11 x_12_12 x_12_13 x_12_14 x_12_15 x_12_16 x_12_17 x_12_18 x_12_19 x_12_20 x_12_21 x_12_22 x_12_23 x_12_24 x_12_25))))))
set_option maxRecDepth 100000 in
def wp_X7_runOrders_T (h0_world : Nat) (p0_clauses : Int32) (p0_length : Int32) (n_p0_heads : Nat) (f_p0_heads : Nat → Int32) (h0_asker_world : Value) (h0_asker_law : Value) (h0_asker_cell : Int32) (h0_asker_shaft : Int32) (h0_asker_kind : Int32) (h0_asker_done : Int32) (h0_asker_latest : Int32) (h0_asker_value : Int32) (n_p0_code : Nat) (f_p0_code : Nat → Int32) (f_h0_asker_stack : Nat → Int64) (h0_world_lawCount : Int32) (h0_world_force : Int32) (h0_world_folk_listeners : Int32) (h0_world_folk_noises : Int32) (h0_world_folk_hushed : Int32) (f_h0_world_folk_column : Nat → Int32) (h0_world_rock_dug : Int64) (f_h0_world_rock_hard : Nat → Int32) (f_h0_world_rock_water : Nat → Int32) (f_h0_world_term : Nat → Int32) (h0_world_crew_count : Int32) (f_h0_world_crew_cell : Nat → Int32) (f_h0_world_crew_buckets : Nat → Int32) (f_h0_world_rock_kind : Nat → Int32) (f_h0_world_laws : Nat → Option Nat) (t : Nat) (t_clauses : Int32) (t_length : Int32) (n_t_heads : Nat) (f_t_heads : Nat → Int32) (n_t_code : Nat) (f_t_code : Nat → Int32) (h0_diary_kept : Int32) (h0_diary_latest : Int32) (f_h0_diary_deed : Nat → Int32) (f_h0_diary_whose : Nat → Int32) (f_h0_diary_before : Nat → Int32) (f_h0_diary_bucketsBefore : Nat → Int32) (f_h0_diary_dayBefore : Nat → Int32) (f_h0_world_folk_noiseColumn : Nat → Int32) (f_h0_world_folk_noiseLoud : Nat → Int32) (Q : Int32 → (Int32 × Int32 × Value × Value × Int32 × Int32 × Int32 × Int32 × Int32 × Int32 × (Nat → Int64) × Int32 × (Nat → Int32) × Int64 × (Nat → Int32) × (Nat → Int32) × (Nat → Int32) × (Nat → Int32) × Int32 × Int32 × (Nat → Int32) × (Nat → Int32) × (Nat → Int32) × (Nat → Int32) × (Nat → Int32)) → Prop) : Prop := (wl_X7_runOrders_T_12 h0_world p0_clauses p0_length n_p0_heads f_p0_heads n_p0_code f_p0_code h0_world_lawCount h0_world_force h0_world_folk_listeners h0_world_folk_noises f_h0_world_rock_hard h0_world_crew_count f_h0_world_rock_kind f_h0_world_laws t t_clauses t_length n_t_heads f_t_heads n_t_code f_t_code f_h0_world_folk_noiseColumn f_h0_world_folk_noiseLoud Q (fun (x_12_0 : Int32) (x_12_1 : Int32) (x_12_2 : Int32) (x_12_3 : Value) (x_12_4 : Value) (x_12_5 : Int32) (x_12_6 : Int32) (x_12_7 : Int32) (x_12_8 : Int32) (x_12_9 : Int32) (x_12_10 : Int32) (x_12_11 : Nat → Int64) (x_12_12 : Int32) (x_12_13 : Nat → Int32) (x_12_14 : Int64) (x_12_15 : Nat → Int32) (x_12_16 : Nat → Int32) (x_12_17 : Nat → Int32) (x_12_18 : Nat → Int32) (x_12_19 : Int32) (x_12_20 : Int32) (x_12_21 : Nat → Int32) (x_12_22 : Nat → Int32) (x_12_23 : Nat → Int32) (x_12_24 : Nat → Int32) (x_12_25 : Nat → Int32) => (Q (-1) (x_12_1, x_12_2, x_12_3, x_12_4, x_12_5, x_12_6, x_12_7, x_12_8, x_12_9, x_12_10, x_12_11, x_12_12, x_12_13, x_12_14, x_12_15, x_12_16, x_12_17, x_12_18, x_12_19, x_12_20, x_12_21, x_12_22, x_12_23, x_12_24, x_12_25))) 1000000000000 0 0 (-1) h0_asker_world h0_asker_law h0_asker_cell h0_asker_shaft h0_asker_kind h0_asker_done h0_asker_latest h0_asker_value f_h0_asker_stack h0_world_folk_hushed f_h0_world_folk_column h0_world_rock_dug f_h0_world_rock_water f_h0_world_term f_h0_world_crew_cell f_h0_world_crew_buckets h0_diary_kept h0_diary_latest f_h0_diary_deed f_h0_diary_whose f_h0_diary_before f_h0_diary_bucketsBefore f_h0_diary_dayBefore)
set_option maxRecDepth 100000 in
def wl_X9_share_T_6 (d : Int64) (Qb : Int32 → Int32 → (Nat → Int32) → Prop) : Nat → Int32 → Int32 → (Nat → Int32) → Prop
  | 0, _, _, _ => False
  | n + 1, x_6_0, x_6_1, x_6_2 => (if 40 ≤ x_6_0 then (Qb x_6_0 x_6_1 x_6_2) else (if 6 ≤ x_6_1 then (Qb x_6_0 x_6_1 x_6_2) else (if (lg_cmp ((d >>> (x_6_0.toInt64 &&& 63)) &&& 1) 0) = 0 then (wl_X9_share_T_6 d Qb n (x_6_0 + 1) x_6_1 x_6_2) else (vp_in x_6_1 6 ∧ (wl_X9_share_T_6 d Qb n (x_6_0 + 1) (x_6_1 + 1) (upd x_6_2 x_6_1.toNatClampNeg x_6_0))))))
set_option maxRecDepth 100000 in
def wl_X9_share_T_77 (p0_crew_count : Int32) (x_6_1 : Int32) (Qb : Int32 → (Nat → Int32) → Prop) : Nat → Int32 → (Nat → Int32) → Prop
  | 0, _, _ => False
  | n + 1, x_77_0, x_77_1 => (if (((1 : Int32) <<< (x_6_1 &&& 31)) - 1) < x_77_0 then (Qb x_77_0 x_77_1) else (if x_77_0 = 0 then (vp_in ((p0_crew_count * 64) + x_77_0) 448 ∧ (wl_X9_share_T_77 p0_crew_count x_6_1 Qb n (x_77_0 + 1) (upd x_77_1 ((p0_crew_count * 64) + x_77_0).toNatClampNeg 0))) else (vp_in ((p0_crew_count * 64) + x_77_0) 448 ∧ (wl_X9_share_T_77 p0_crew_count x_6_1 Qb n (x_77_0 + 1) (upd x_77_1 ((p0_crew_count * 64) + x_77_0).toNatClampNeg 1000000)))))
set_option maxRecDepth 100000 in
def wl_X9_share_T_128 (x_6_1 : Int32) (u_54_0 : Nat → Int32) (x_120_0 : Int32) (Qb : Int32 → (Nat → Int32) → Prop) : Nat → Int32 → (Nat → Int32) → Prop
  | 0, _, _ => False
  | n + 1, x_128_0, x_128_1 => (if (((1 : Int32) <<< (x_6_1 &&& 31)) - 1) < x_128_0 then (Qb x_128_0 x_128_1) else (wp_X9_fewestFrom x_120_0 x_128_0 x_6_1 (x_128_1) (u_54_0) (fun (r_154 : Int32) => (vp_in ((x_120_0 * 64) + x_128_0) 448 ∧ (wl_X9_share_T_128 x_6_1 u_54_0 x_120_0 Qb n (x_128_0 + 1) (upd x_128_1 ((x_120_0 * 64) + x_128_0).toNatClampNeg r_154))))))
set_option maxRecDepth 100000 in
def wl_X9_share_T_120 (x_6_1 : Int32) (u_54_0 : Nat → Int32) (Qb : Int32 → (Nat → Int32) → Prop) : Nat → Int32 → (Nat → Int32) → Prop
  | 0, _, _ => False
  | n + 1, x_120_0, x_120_1 => (if x_120_0 < 0 then (Qb x_120_0 x_120_1) else (wl_X9_share_T_128 x_6_1 u_54_0 x_120_0 (fun (x_128_0 : Int32) (x_128_1 : Nat → Int32) => (wl_X9_share_T_120 x_6_1 u_54_0 Qb n (x_120_0 + (-1)) x_128_1)) 1000000000000 0 x_120_1))
set_option maxRecDepth 100000 in
def wp_X9_share_T (d : Int64) (f_h0_told : Nat → Int32) (p0_crew_count : Int32) (f_p0_crew_cell : Nat → Int32) (p0_rock_dug : Int64) (f_p0_rock_kind : Nat → Int32) (f_h0_price : Nat → Int32) (f_h0_cost : Nat → Int32) (f_h0_left : Nat → Int32) (f_h0_endsWay : Nat → Int32) (p1_cell : Int32) (p1_shaft : Int32) (p1_kind : Int32) (p1_done : Int32) (p1_latest : Int32) (p1_value : Int32) (p1_law_clauses : Int32) (p1_law_length : Int32) (n_p1_law_heads : Nat) (f_p1_law_heads : Nat → Int32) (n_p1_law_code : Nat) (f_p1_law_code : Nat → Int32) (f_p1_stack : Nat → Int64) (p0_folk_listeners : Int32) (f_p0_folk_column : Nat → Int32) (f_p0_rock_hard : Nat → Int32) (f_p0_rock_water : Nat → Int32) (f_p0_term : Nat → Int32) (f_p0_crew_buckets : Nat → Int32) (f_h0_fewest : Nat → Int32) (f_h0_cellOfShaft : Nat → Int32) (Q : Int32 → (Int32 × (Nat → Int32) × (Nat → Int32) × (Nat → Int32) × (Nat → Int32) × (Nat → Int32) × Int32 × Int32 × Int32 × Int32 × (Nat → Int64) × (Nat → Int32) × (Nat → Int32)) → Prop) : Prop := (wl_X9_share_T_6 d (fun (x_6_0 : Int32) (x_6_1 : Int32) (x_6_2 : Nat → Int32) => (wp_X9_priceAll_T x_6_1 p0_crew_count (f_p0_crew_cell) p0_rock_dug (f_p0_rock_kind) (f_h0_price) (x_6_2) (f_h0_cost) (f_h0_left) (f_h0_endsWay) p1_cell p1_shaft p1_kind p1_done p1_latest p1_value p1_law_clauses p1_law_length n_p1_law_heads (f_p1_law_heads) n_p1_law_code (f_p1_law_code) (f_p1_stack) p0_folk_listeners (f_p0_folk_column) (f_p0_rock_hard) (f_p0_rock_water) (f_p0_term) (f_p0_crew_buckets) (un9 (fun (u_54_0 : Nat → Int32) (u_54_1 : Nat → Int32) (u_54_2 : Nat → Int32) (u_54_3 : Nat → Int32) (u_54_4 : Int32) (u_54_5 : Int32) (u_54_6 : Int32) (u_54_7 : Int32) (u_54_8 : Nat → Int64) => (wl_X9_share_T_77 p0_crew_count x_6_1 (fun (x_77_0 : Int32) (x_77_1 : Nat → Int32) => (wl_X9_share_T_120 x_6_1 u_54_0 (fun (x_120_0 : Int32) (x_120_1 : Nat → Int32) => (vp_in (((1 : Int32) <<< (x_6_1 &&& 31)) - 1) 448 ∧ (if (x_120_1 (((1 : Int32) <<< (x_6_1 &&& 31)) - 1).toNatClampNeg) < 1000000 then (wp_X9_fillRow p0_crew_count x_6_1 (u_54_0) (x_120_1) (x_6_2) (f_h0_cellOfShaft) (fun (u_197 : Nat → Int32) => (Q 1 ((x_120_1 (((1 : Int32) <<< (x_6_1 &&& 31)) - 1).toNatClampNeg), x_6_2, u_54_0, u_54_1, u_54_2, u_54_3, u_54_4, u_54_5, u_54_6, u_54_7, u_54_8, x_120_1, u_197)))) else (Q 0 ((x_120_1 (((1 : Int32) <<< (x_6_1 &&& 31)) - 1).toNatClampNeg), x_6_2, u_54_0, u_54_1, u_54_2, u_54_3, u_54_4, u_54_5, u_54_6, u_54_7, u_54_8, x_120_1, f_h0_cellOfShaft))))) 1000000000000 (p0_crew_count - 1) x_77_1)) 1000000000000 0 f_h0_fewest))))) 1000000000000 0 0 f_h0_told)
set_option maxRecDepth 100000 in
def wp_X11_hears_T (a : Int32) (h0_site_world : Nat) (h0_site_world_lawCount : Int32) (h0_site_world_force : Int32) (h0_site_world_folk_listeners : Int32) (h0_site_world_folk_noises : Int32) (h0_site_world_folk_hushed : Int32) (f_h0_site_world_laws : Nat → Option Nat) (h0_asker_world : Value) (h0_asker_law : Value) (h0_asker_cell : Int32) (h0_asker_shaft : Int32) (h0_asker_kind : Int32) (h0_asker_done : Int32) (h0_asker_latest : Int32) (h0_asker_value : Int32) (f_h0_site_world_rock_kind : Nat → Int32) (t : Nat) (t_clauses : Int32) (t_length : Int32) (n_t_heads : Nat) (f_t_heads : Nat → Int32) (n_t_code : Nat) (f_t_code : Nat → Int32) (f_h0_asker_stack : Nat → Int64) (f_h0_site_world_folk_column : Nat → Int32) (f_h0_site_world_rock_hard : Nat → Int32) (f_h0_site_world_rock_water : Nat → Int32) (f_h0_site_world_term : Nat → Int32) (h0_site_world_crew_count : Int32) (f_h0_site_world_crew_cell : Nat → Int32) (f_h0_site_world_crew_buckets : Nat → Int32) (f_h0_ears_said : Nat → Int32) (f_h0_ears_lost : Nat → Int32) (f_h0_site_world_folk_noiseColumn : Nat → Int32) (f_h0_site_world_folk_noiseLoud : Nat → Int32) (f_h0_site_world_folk_ear : Nat → Int32) (Q : Int64 → (Value × Value × Int32 × Int32 × Int32 × Int32 × (Nat → Int64) × (Nat → Int32) × (Nat → Int32)) → Prop) : Prop := (wp_X11_isWithin a h0_site_world_folk_listeners (fun (r_16 : Int32) => (if r_16 = 0 then (Q (-1) (h0_asker_world, h0_asker_law, h0_asker_cell, h0_asker_shaft, h0_asker_kind, h0_asker_value, f_h0_asker_stack, f_h0_ears_said, f_h0_ears_lost)) else (wp_X10_lawInForce_T h0_site_world_lawCount h0_site_world_force (f_h0_site_world_laws) t (wp_X3_measure_T h0_asker_cell h0_asker_shaft h0_asker_kind h0_asker_done h0_asker_latest h0_asker_value (f_h0_site_world_rock_kind) t_clauses t_length n_t_heads (f_t_heads) n_t_code (f_t_code) (f_h0_asker_stack) h0_site_world_folk_listeners (f_h0_site_world_folk_column) (f_h0_site_world_rock_hard) (f_h0_site_world_rock_water) (f_h0_site_world_term) h0_site_world_crew_count (f_h0_site_world_crew_cell) (f_h0_site_world_crew_buckets) (f_h0_ears_said) (f_h0_ears_lost) (un7 (fun (u_35_0 : Int32) (u_35_1 : Int32) (u_35_2 : Int32) (u_35_3 : Int32) (u_35_4 : Nat → Int64) (u_35_5 : Nat → Int32) (u_35_6 : Nat → Int32) => (wp_X3_cellsHeardBy a h0_site_world_folk_noises h0_site_world_folk_hushed (f_h0_site_world_folk_column) (f_h0_site_world_folk_noiseColumn) (f_h0_site_world_folk_noiseLoud) (f_h0_site_world_rock_kind) (u_35_5) (u_35_6) (f_h0_site_world_folk_ear) (fun (r_44 : Int64) => (Q r_44 ((Value.ref h0_site_world), (Value.ref t), u_35_0, u_35_1, u_35_2, u_35_3, u_35_4, u_35_5, u_35_6)))))))))))
set_option maxRecDepth 100000 in
def wp_X11_down_T (a : Int32) (b : Int32) (d : Int32) (h0_site_world : Nat) (h0_site_world_lawCount : Int32) (h0_site_world_force : Int32) (h0_site_world_crew_count : Int32) (f_h0_site_world_crew_cell : Nat → Int32) (h0_site_world_rock_dug : Int64) (f_h0_site_world_rock_kind : Nat → Int32) (f_h0_site_world_laws : Nat → Option Nat) (h0_asker_world : Value) (h0_asker_law : Value) (h0_asker_cell : Int32) (h0_asker_shaft : Int32) (h0_asker_kind : Int32) (h0_asker_done : Int32) (h0_asker_latest : Int32) (h0_asker_value : Int32) (h0_ways_steps : Int32) (h0_ways_days : Int32) (t : Nat) (t_clauses : Int32) (t_length : Int32) (n_t_heads : Nat) (f_t_heads : Nat → Int32) (n_t_code : Nat) (f_t_code : Nat → Int32) (f_h0_asker_stack : Nat → Int64) (h0_site_world_folk_listeners : Int32) (f_h0_site_world_folk_column : Nat → Int32) (f_h0_site_world_rock_hard : Nat → Int32) (f_h0_site_world_rock_water : Nat → Int32) (f_h0_site_world_term : Nat → Int32) (f_h0_site_world_crew_buckets : Nat → Int32) (f_h0_ways_cost : Nat → Int32) (f_h0_ways_endsWay : Nat → Int32) (f_h0_ways_left : Nat → Int32) (f_h0_ways_path : Nat → Int32) (Q : Int32 → (Value × Value × Int32 × Int32 × Int32 × Int32 × Int32 × Int32 × (Nat → Int64) × (Nat → Int32) × (Nat → Int32) × (Nat → Int32) × (Nat → Int32)) → Prop) : Prop := (if d < 0 then (Q (-1) (h0_asker_world, h0_asker_law, h0_asker_cell, h0_asker_shaft, h0_asker_kind, h0_asker_value, h0_ways_steps, h0_ways_days, f_h0_asker_stack, f_h0_ways_cost, f_h0_ways_endsWay, f_h0_ways_left, f_h0_ways_path)) else (wp_X11_findWay_T a b h0_site_world h0_site_world_lawCount h0_site_world_force h0_site_world_crew_count (f_h0_site_world_crew_cell) h0_site_world_rock_dug (f_h0_site_world_rock_kind) (f_h0_site_world_laws) h0_asker_world h0_asker_law h0_asker_cell h0_asker_shaft h0_asker_kind h0_asker_done h0_asker_latest h0_asker_value h0_ways_days t t_clauses t_length n_t_heads (f_t_heads) n_t_code (f_t_code) (f_h0_asker_stack) h0_site_world_folk_listeners (f_h0_site_world_folk_column) (f_h0_site_world_rock_hard) (f_h0_site_world_rock_water) (f_h0_site_world_term) (f_h0_site_world_crew_buckets) (f_h0_ways_cost) (f_h0_ways_endsWay) (f_h0_ways_left) (fun (r_7 : Int32) => (un11 (fun (u_7_0 : Value) (u_7_1 : Value) (u_7_2 : Int32) (u_7_3 : Int32) (u_7_4 : Int32) (u_7_5 : Int32) (u_7_6 : Int32) (u_7_7 : Nat → Int64) (u_7_8 : Nat → Int32) (u_7_9 : Nat → Int32) (u_7_10 : Nat → Int32) => (if r_7 = 0 then (Q (-1) (u_7_0, u_7_1, u_7_2, u_7_3, u_7_4, u_7_5, h0_ways_steps, u_7_6, u_7_7, u_7_8, u_7_9, u_7_10, f_h0_ways_path)) else (if d = 0 then (Q u_7_6 (u_7_0, u_7_1, u_7_2, u_7_3, u_7_4, u_7_5, h0_ways_steps, u_7_6, u_7_7, u_7_8, u_7_9, u_7_10, f_h0_ways_path)) else (vp_in a 6 ∧ (wp_X9_walk (f_h0_site_world_crew_cell a.toNatClampNeg) b (u_7_8) (u_7_10) (u_7_9) (f_h0_ways_path) (un2 (fun (u_47_0 : Int32) (u_47_1 : Nat → Int32) => (if d = 1 then (Q u_47_0 (u_7_0, u_7_1, u_7_2, u_7_3, u_7_4, u_7_5, u_47_0, u_7_6, u_7_7, u_7_8, u_7_9, u_7_10, u_47_1)) else (if u_47_0 ≤ (d - 2) then (Q (-1) (u_7_0, u_7_1, u_7_2, u_7_3, u_7_4, u_7_5, u_47_0, u_7_6, u_7_7, u_7_8, u_7_9, u_7_10, u_47_1)) else (vp_in (d - 2) 40 ∧ (Q (u_47_1 (d - 2).toNatClampNeg) (u_7_0, u_7_1, u_7_2, u_7_3, u_7_4, u_7_5, u_47_0, u_7_6, u_7_7, u_7_8, u_7_9, u_7_10, u_47_1))))))))))))))))
set_option maxRecDepth 100000 in
def wp_X11_gangs_T (a : Int64) (b : Int32) (h0_site_world : Nat) (h0_site_world_lawCount : Int32) (h0_site_world_force : Int32) (h0_site_world_crew_count : Int32) (f_h0_site_world_laws : Nat → Option Nat) (h0_asker_world : Value) (h0_asker_law : Value) (h0_asker_cell : Int32) (h0_asker_shaft : Int32) (h0_asker_kind : Int32) (h0_asker_done : Int32) (h0_asker_latest : Int32) (h0_asker_value : Int32) (h0_ways_days : Int32) (f_h0_ways_told : Nat → Int32) (f_h0_site_world_crew_cell : Nat → Int32) (h0_site_world_rock_dug : Int64) (f_h0_site_world_rock_kind : Nat → Int32) (f_h0_ways_price : Nat → Int32) (f_h0_ways_cost : Nat → Int32) (f_h0_ways_left : Nat → Int32) (f_h0_ways_endsWay : Nat → Int32) (t : Nat) (t_clauses : Int32) (t_length : Int32) (n_t_heads : Nat) (f_t_heads : Nat → Int32) (n_t_code : Nat) (f_t_code : Nat → Int32) (f_h0_asker_stack : Nat → Int64) (h0_site_world_folk_listeners : Int32) (f_h0_site_world_folk_column : Nat → Int32) (f_h0_site_world_rock_hard : Nat → Int32) (f_h0_site_world_rock_water : Nat → Int32) (f_h0_site_world_term : Nat → Int32) (f_h0_site_world_crew_buckets : Nat → Int32) (f_h0_ways_fewest : Nat → Int32) (f_h0_ways_cellOfShaft : Nat → Int32) (Q : Int32 → (Value × Value × Int32 × Int32 × Int32 × Int32 × Int32 × (Nat → Int32) × (Nat → Int32) × (Nat → Int32) × (Nat → Int32) × (Nat → Int32) × (Nat → Int64) × (Nat → Int32) × (Nat → Int32)) → Prop) : Prop := (if (lg_cmp a 0) < 0 then (Q (-1) (h0_asker_world, h0_asker_law, h0_asker_cell, h0_asker_shaft, h0_asker_kind, h0_asker_value, h0_ways_days, f_h0_ways_told, f_h0_ways_price, f_h0_ways_cost, f_h0_ways_left, f_h0_ways_endsWay, f_h0_asker_stack, f_h0_ways_fewest, f_h0_ways_cellOfShaft)) else (if (lg_cmp (a >>> ((40 : Int32).toInt64 &&& 63)) 0) = 0 then (wp_J13_bitCount_95d88 a (fun (r_31 : Int32) => (if 6 < r_31 then (Q (-1) (h0_asker_world, h0_asker_law, h0_asker_cell, h0_asker_shaft, h0_asker_kind, h0_asker_value, h0_ways_days, f_h0_ways_told, f_h0_ways_price, f_h0_ways_cost, f_h0_ways_left, f_h0_ways_endsWay, f_h0_asker_stack, f_h0_ways_fewest, f_h0_ways_cellOfShaft)) else (wp_X11_isWithin b (h0_site_world_crew_count + 1) (fun (r_44 : Int32) => (if r_44 = 0 then (Q (-1) (h0_asker_world, h0_asker_law, h0_asker_cell, h0_asker_shaft, h0_asker_kind, h0_asker_value, h0_ways_days, f_h0_ways_told, f_h0_ways_price, f_h0_ways_cost, f_h0_ways_left, f_h0_ways_endsWay, f_h0_asker_stack, f_h0_ways_fewest, f_h0_ways_cellOfShaft)) else (wp_X10_lawInForce_T h0_site_world_lawCount h0_site_world_force (f_h0_site_world_laws) t (wp_X0_turnTo_T (fun (u_73 : Unit) => (wp_X9_share_T a (f_h0_ways_told) h0_site_world_crew_count (f_h0_site_world_crew_cell) h0_site_world_rock_dug (f_h0_site_world_rock_kind) (f_h0_ways_price) (f_h0_ways_cost) (f_h0_ways_left) (f_h0_ways_endsWay) h0_asker_cell h0_asker_shaft h0_asker_kind h0_asker_done h0_asker_latest h0_asker_value t_clauses t_length n_t_heads (f_t_heads) n_t_code (f_t_code) (f_h0_asker_stack) h0_site_world_folk_listeners (f_h0_site_world_folk_column) (f_h0_site_world_rock_hard) (f_h0_site_world_rock_water) (f_h0_site_world_term) (f_h0_site_world_crew_buckets) (f_h0_ways_fewest) (f_h0_ways_cellOfShaft) (fun (r_92 : Int32) => (un13 (fun (u_92_0 : Int32) (u_92_1 : Nat → Int32) (u_92_2 : Nat → Int32) (u_92_3 : Nat → Int32) (u_92_4 : Nat → Int32) (u_92_5 : Nat → Int32) (u_92_6 : Int32) (u_92_7 : Int32) (u_92_8 : Int32) (u_92_9 : Int32) (u_92_10 : Nat → Int64) (u_92_11 : Nat → Int32) (u_92_12 : Nat → Int32) => (if r_92 = 0 then (Q (-1) ((Value.ref h0_site_world), (Value.ref t), u_92_6, u_92_7, u_92_8, u_92_9, u_92_0, u_92_1, u_92_2, u_92_3, u_92_4, u_92_5, u_92_10, u_92_11, u_92_12)) else (if b = 0 then (Q u_92_0 ((Value.ref h0_site_world), (Value.ref t), u_92_6, u_92_7, u_92_8, u_92_9, u_92_0, u_92_1, u_92_2, u_92_3, u_92_4, u_92_5, u_92_10, u_92_11, u_92_12)) else (vp_in (b - 1) 6 ∧ (Q (u_92_12 (b - 1).toNatClampNeg) ((Value.ref h0_site_world), (Value.ref t), u_92_6, u_92_7, u_92_8, u_92_9, u_92_0, u_92_1, u_92_2, u_92_3, u_92_4, u_92_5, u_92_10, u_92_11, u_92_12)))))))))))))))))) else (Q (-1) (h0_asker_world, h0_asker_law, h0_asker_cell, h0_asker_shaft, h0_asker_kind, h0_asker_value, h0_ways_days, f_h0_ways_told, f_h0_ways_price, f_h0_ways_cost, f_h0_ways_left, f_h0_ways_endsWay, f_h0_asker_stack, f_h0_ways_fewest, f_h0_ways_cellOfShaft))))
set_option maxRecDepth 100000 in
def wp_X11_time_T (a : Int32) (b : Int32) (d : Int32) (h0_site_world : Nat) (h0_site_world_lawCount : Int32) (h0_site_world_force : Int32) (h0_site_world_crew_count : Int32) (f_h0_site_world_crew_cell : Nat → Int32) (h0_site_world_rock_dug : Int64) (f_h0_site_world_rock_kind : Nat → Int32) (f_h0_site_world_laws : Nat → Option Nat) (h0_asker_world : Value) (h0_asker_law : Value) (h0_asker_cell : Int32) (h0_asker_shaft : Int32) (h0_asker_kind : Int32) (h0_asker_done : Int32) (h0_asker_latest : Int32) (h0_asker_value : Int32) (h0_ways_days : Int32) (t : Nat) (t_clauses : Int32) (t_length : Int32) (n_t_heads : Nat) (f_t_heads : Nat → Int32) (n_t_code : Nat) (f_t_code : Nat → Int32) (f_h0_asker_stack : Nat → Int64) (h0_site_world_folk_listeners : Int32) (f_h0_site_world_folk_column : Nat → Int32) (f_h0_site_world_rock_hard : Nat → Int32) (f_h0_site_world_rock_water : Nat → Int32) (f_h0_site_world_term : Nat → Int32) (f_h0_site_world_crew_buckets : Nat → Int32) (f_h0_ways_cost : Nat → Int32) (f_h0_ways_endsWay : Nat → Int32) (f_h0_ways_left : Nat → Int32) (f_h0_ways_chance : Nat → Int64) (Q : Int64 → (Value × Value × Int32 × Int32 × Int32 × Int32 × Int32 × (Nat → Int64) × (Nat → Int32) × (Nat → Int32) × (Nat → Int32) × (Nat → Int64)) → Prop) : Prop := (wp_X11_isWithin d 201 (fun (r_4 : Int32) => (if r_4 = 0 then (Q (-1) (h0_asker_world, h0_asker_law, h0_asker_cell, h0_asker_shaft, h0_asker_kind, h0_asker_value, h0_ways_days, f_h0_asker_stack, f_h0_ways_cost, f_h0_ways_endsWay, f_h0_ways_left, f_h0_ways_chance)) else (wp_X11_findWay_T a b h0_site_world h0_site_world_lawCount h0_site_world_force h0_site_world_crew_count (f_h0_site_world_crew_cell) h0_site_world_rock_dug (f_h0_site_world_rock_kind) (f_h0_site_world_laws) h0_asker_world h0_asker_law h0_asker_cell h0_asker_shaft h0_asker_kind h0_asker_done h0_asker_latest h0_asker_value h0_ways_days t t_clauses t_length n_t_heads (f_t_heads) n_t_code (f_t_code) (f_h0_asker_stack) h0_site_world_folk_listeners (f_h0_site_world_folk_column) (f_h0_site_world_rock_hard) (f_h0_site_world_rock_water) (f_h0_site_world_term) (f_h0_site_world_crew_buckets) (f_h0_ways_cost) (f_h0_ways_endsWay) (f_h0_ways_left) (fun (r_13 : Int32) => (un11 (fun (u_13_0 : Value) (u_13_1 : Value) (u_13_2 : Int32) (u_13_3 : Int32) (u_13_4 : Int32) (u_13_5 : Int32) (u_13_6 : Int32) (u_13_7 : Nat → Int64) (u_13_8 : Nat → Int32) (u_13_9 : Nat → Int32) (u_13_10 : Nat → Int32) => (if r_13 = 0 then (Q (-1) (u_13_0, u_13_1, u_13_2, u_13_3, u_13_4, u_13_5, u_13_6, u_13_7, u_13_8, u_13_9, u_13_10, f_h0_ways_chance)) else (wp_X9_chanceIn d (f_h0_site_world_term (1 : Int32).toNatClampNeg) u_13_6 (f_h0_ways_chance) (fun (r_40 : Int64) => (fun (u_40 : Nat → Int64) => (Q r_40 (u_13_0, u_13_1, u_13_2, u_13_3, u_13_4, u_13_5, u_13_6, u_13_7, u_13_8, u_13_9, u_13_10, u_40)))))))))))))
set_option maxRecDepth 100000 in
def wl_X11_compare_T_36 (f_h0_site_world_rock_kind : Nat → Int32) (h0_site_world_folk_listeners : Int32) (h0_site_world_folk_noises : Int32) (h0_site_world_folk_hushed : Int32) (f_h0_site_world_folk_column : Nat → Int32) (f_h0_site_world_folk_noiseColumn : Nat → Int32) (f_h0_site_world_folk_noiseLoud : Nat → Int32) (f_h0_site_world_folk_ear : Nat → Int32) (u_28_5 : Nat → Int32) (u_28_6 : Nat → Int32) (Qb : Int32 → Int32 → Prop) : Nat → Int32 → Int32 → Prop
  | 0, _, _ => False
  | n + 1, x_36_0, x_36_1 => (if h0_site_world_folk_listeners ≤ x_36_0 then (Qb x_36_0 x_36_1) else (wp_X3_cellsHeardBy x_36_0 h0_site_world_folk_noises h0_site_world_folk_hushed (f_h0_site_world_folk_column) (f_h0_site_world_folk_noiseColumn) (f_h0_site_world_folk_noiseLoud) (f_h0_site_world_rock_kind) (u_28_5) (u_28_6) (f_h0_site_world_folk_ear) (fun (r_56 : Int64) => (wp_J13_bitCount_95d88 r_56 (fun (r_59 : Int32) => (wl_X11_compare_T_36 f_h0_site_world_rock_kind h0_site_world_folk_listeners h0_site_world_folk_noises h0_site_world_folk_hushed f_h0_site_world_folk_column f_h0_site_world_folk_noiseColumn f_h0_site_world_folk_noiseLoud f_h0_site_world_folk_ear u_28_5 u_28_6 Qb n (x_36_0 + 1) (x_36_1 + r_59)))))))
set_option maxRecDepth 100000 in
def wp_X11_compare_T (a : Int32) (h0_site_world : Nat) (h0_site_world_lawCount : Int32) (f_h0_site_world_laws : Nat → Option Nat) (h0_asker_world : Value) (h0_asker_law : Value) (h0_asker_cell : Int32) (h0_asker_shaft : Int32) (h0_asker_kind : Int32) (h0_asker_done : Int32) (h0_asker_latest : Int32) (h0_asker_value : Int32) (f_h0_site_world_rock_kind : Nat → Int32) (t : Nat) (t_clauses : Int32) (t_length : Int32) (n_t_heads : Nat) (f_t_heads : Nat → Int32) (n_t_code : Nat) (f_t_code : Nat → Int32) (f_h0_asker_stack : Nat → Int64) (h0_site_world_folk_listeners : Int32) (h0_site_world_folk_noises : Int32) (h0_site_world_folk_hushed : Int32) (f_h0_site_world_folk_column : Nat → Int32) (f_h0_site_world_rock_hard : Nat → Int32) (f_h0_site_world_rock_water : Nat → Int32) (f_h0_site_world_term : Nat → Int32) (h0_site_world_crew_count : Int32) (f_h0_site_world_crew_cell : Nat → Int32) (f_h0_site_world_crew_buckets : Nat → Int32) (f_h0_ears_said : Nat → Int32) (f_h0_ears_lost : Nat → Int32) (f_h0_site_world_folk_noiseColumn : Nat → Int32) (f_h0_site_world_folk_noiseLoud : Nat → Int32) (f_h0_site_world_folk_ear : Nat → Int32) (Q : Int32 → (Value × Value × Int32 × Int32 × Int32 × Int32 × (Nat → Int64) × (Nat → Int32) × (Nat → Int32)) → Prop) : Prop := (wp_X10_hasLaw a h0_site_world_lawCount (fun (r_10 : Int32) => (if r_10 = 0 then (Q (-1) (h0_asker_world, h0_asker_law, h0_asker_cell, h0_asker_shaft, h0_asker_kind, h0_asker_value, f_h0_asker_stack, f_h0_ears_said, f_h0_ears_lost)) else (wp_X10_lawOf_T a h0_site_world_lawCount (f_h0_site_world_laws) t (wp_X3_measure_T h0_asker_cell h0_asker_shaft h0_asker_kind h0_asker_done h0_asker_latest h0_asker_value (f_h0_site_world_rock_kind) t_clauses t_length n_t_heads (f_t_heads) n_t_code (f_t_code) (f_h0_asker_stack) h0_site_world_folk_listeners (f_h0_site_world_folk_column) (f_h0_site_world_rock_hard) (f_h0_site_world_rock_water) (f_h0_site_world_term) h0_site_world_crew_count (f_h0_site_world_crew_cell) (f_h0_site_world_crew_buckets) (f_h0_ears_said) (f_h0_ears_lost) (un7 (fun (u_28_0 : Int32) (u_28_1 : Int32) (u_28_2 : Int32) (u_28_3 : Int32) (u_28_4 : Nat → Int64) (u_28_5 : Nat → Int32) (u_28_6 : Nat → Int32) => (wl_X11_compare_T_36 f_h0_site_world_rock_kind h0_site_world_folk_listeners h0_site_world_folk_noises h0_site_world_folk_hushed f_h0_site_world_folk_column f_h0_site_world_folk_noiseColumn f_h0_site_world_folk_noiseLoud f_h0_site_world_folk_ear u_28_5 u_28_6 (fun (x_36_0 : Int32) (x_36_1 : Int32) => (Q x_36_1 ((Value.ref h0_site_world), (Value.ref t), u_28_0, u_28_1, u_28_2, u_28_3, u_28_4, u_28_5, u_28_6))) 1000000000000 0 0))))))))
set_option maxRecDepth 100000 in
def un31 {α0 α1 α2 α3 α4 α5 α6 α7 α8 α9 α10 α11 α12 α13 α14 α15 α16 α17 α18 α19 α20 α21 α22 α23 α24 α25 α26 α27 α28 α29 α30 : Type} (f : α0 → α1 → α2 → α3 → α4 → α5 → α6 → α7 → α8 → α9 → α10 → α11 → α12 → α13 → α14 → α15 → α16 → α17 → α18 → α19 → α20 → α21 → α22 → α23 → α24 → α25 → α26 → α27 → α28 → α29 → α30 → Prop) : α0 × α1 × α2 × α3 × α4 × α5 × α6 × α7 × α8 × α9 × α10 × α11 × α12 × α13 × α14 × α15 × α16 × α17 × α18 × α19 × α20 × α21 × α22 × α23 × α24 × α25 × α26 × α27 × α28 × α29 × α30 → Prop := fun p => f p.1 p.2.1 p.2.2.1 p.2.2.2.1 p.2.2.2.2.1 p.2.2.2.2.2.1 p.2.2.2.2.2.2.1 p.2.2.2.2.2.2.2.1 p.2.2.2.2.2.2.2.2.1 p.2.2.2.2.2.2.2.2.2.1 p.2.2.2.2.2.2.2.2.2.2.1 p.2.2.2.2.2.2.2.2.2.2.2.1 p.2.2.2.2.2.2.2.2.2.2.2.2.1 p.2.2.2.2.2.2.2.2.2.2.2.2.2.1 p.2.2.2.2.2.2.2.2.2.2.2.2.2.2.1 p.2.2.2.2.2.2.2.2.2.2.2.2.2.2.2.1 p.2.2.2.2.2.2.2.2.2.2.2.2.2.2.2.2.1 p.2.2.2.2.2.2.2.2.2.2.2.2.2.2.2.2.2.1 p.2.2.2.2.2.2.2.2.2.2.2.2.2.2.2.2.2.2.1 p.2.2.2.2.2.2.2.2.2.2.2.2.2.2.2.2.2.2.2.1 p.2.2.2.2.2.2.2.2.2.2.2.2.2.2.2.2.2.2.2.2.1 p.2.2.2.2.2.2.2.2.2.2.2.2.2.2.2.2.2.2.2.2.2.1 p.2.2.2.2.2.2.2.2.2.2.2.2.2.2.2.2.2.2.2.2.2.2.1 p.2.2.2.2.2.2.2.2.2.2.2.2.2.2.2.2.2.2.2.2.2.2.2.1 p.2.2.2.2.2.2.2.2.2.2.2.2.2.2.2.2.2.2.2.2.2.2.2.2.1 p.2.2.2.2.2.2.2.2.2.2.2.2.2.2.2.2.2.2.2.2.2.2.2.2.2.1 p.2.2.2.2.2.2.2.2.2.2.2.2.2.2.2.2.2.2.2.2.2.2.2.2.2.2.1 p.2.2.2.2.2.2.2.2.2.2.2.2.2.2.2.2.2.2.2.2.2.2.2.2.2.2.2.1 p.2.2.2.2.2.2.2.2.2.2.2.2.2.2.2.2.2.2.2.2.2.2.2.2.2.2.2.2.1 p.2.2.2.2.2.2.2.2.2.2.2.2.2.2.2.2.2.2.2.2.2.2.2.2.2.2.2.2.2.1 p.2.2.2.2.2.2.2.2.2.2.2.2.2.2.2.2.2.2.2.2.2.2.2.2.2.2.2.2.2.2
set_option maxRecDepth 100000 in
def wp_J3_checkIndex_8e157n (a : Int32) (b : Int32) (Q : Int32 → Prop) : Prop := (if a < 0 then (False ∧ True) else (if a < b then (Q a) else (False ∧ True)))
set_option maxRecDepth 100000 in
def wp_J3_checkIndex_8e157r (a : Int32) (b : Int32) (Q : Int32 → Prop) : Prop := (if a < 0 then (False ∧ True) else (if a < b then (Q a) else (False ∧ True)))
set_option maxRecDepth 100000 in
def isRf (v : Value) : Prop := v = Value.null ∨ ∃ q, v = Value.ref q
set_option maxRecDepth 100000 in
def wp_J3_checkIndex_8e157 (a : Int32) (b : Int32) (d : Value) (Q : Int32 → Prop) : Prop := (isRf d ∧ wp_J3_checkIndex_8e157n a b Q)
set_option maxRecDepth 100000 in
def wp_J0_isLatin1_aae02 (Q : Int32 → Prop) : Prop := (Q 1)
set_option maxRecDepth 100000 in
def wp_J0_checkIndex_df160 (a : Int32) (b : Int32) (xe : XE) (Q : Prop) : Prop := (wp_J3_checkIndex_8e157 a b xe.2.2 (fun (r_5 : Int32) => Q))
set_option maxRecDepth 100000 in
def wp_J1_charAt_3b067 (a : Int32) (xe : XE) (Q : Int32 → Prop) : Prop := (wp_J0_checkIndex_df160 a 232 xe (vp_in a 232 ∧ (narrow .char (Value.int (((((zby a.toNatClampNeg) &&& 255)).toUInt32 % 65536).toInt32)) = Value.int (((((zby a.toNatClampNeg) &&& 255)).toUInt32 % 65536).toInt32) ∧ (Q (((((zby a.toNatClampNeg) &&& 255)).toUInt32 % 65536).toInt32)))))
set_option maxRecDepth 100000 in
def wp_J0_charAt_5068e (a : Int32) (xe : XE) (Q : Int32 → Prop) : Prop := (wp_J0_isLatin1_aae02 (fun (r_1 : Int32) => (if r_1 = 0 then (False ∧ True) else (wp_J1_charAt_3b067 a xe (fun (r_12 : Int32) => (narrow .char (Value.int r_12) = Value.int r_12 ∧ (Q r_12)))))))
set_option maxRecDepth 100000 in
def wp_X5_readPart (wS : Int32 → Int32 → Int32 → Int32 → Int32 → Int32 → Int32 → (Nat → Int32) → Int32 → Int32 → (Nat → Int32) → (Int32 → (Int32 × Int32 × Int32 × (Nat → Int32)) → Prop) → Prop) (a : Int32) (h0_length : Int32) (h0_tokenCount : Int32) (h0_now : Int32) (h0_parts : Int32) (h0_asOrders : Int32) (h0_faultPlace : Int32) (f_h0_tokens : Nat → Int32) (h0_draft_clauses : Int32) (h0_draft_length : Int32) (f_h0_draft_code : Nat → Int32) (Q : Int32 → (Int32 × Int32 × Int32 × (Nat → Int32)) → Prop) : Prop := (wp_X5_tokenNow h0_tokenCount h0_now (f_h0_tokens) (fun (r_1 : Int32) => (if r_1 = 191 then (wp_X5_open a h0_now (fun (r_14 : Int32) => (fun (u_14 : Int32) => (if r_14 = 0 then (Q 0 (u_14, h0_parts, h0_draft_length, f_h0_draft_code)) else (wS (a + 1) h0_length h0_tokenCount u_14 h0_parts h0_asOrders h0_faultPlace (f_h0_tokens) h0_draft_clauses h0_draft_length (f_h0_draft_code) (fun (r_24 : Int32) => (un4 (fun (u_24_0 : Int32) (u_24_1 : Int32) (u_24_2 : Int32) (u_24_3 : Nat → Int32) => (if r_24 = 0 then (Q 0 (u_24_0, u_24_1, u_24_2, u_24_3)) else (wp_X5_take 193 h0_tokenCount u_24_0 (f_h0_tokens) (fun (r_34 : Int32) => (fun (u_34 : Int32) => (if r_34 = 0 then (Q 0 (u_34, u_24_1, u_24_2, u_24_3)) else (Q 1 (u_34, u_24_1, u_24_2, u_24_3))))))))))))))) else (jn (fun (y_65 : Int32) => (jn (fun (y_81 : Int32) => (if 50 ≤ h0_parts then (Q 0 (h0_now, h0_parts, h0_draft_length, f_h0_draft_code)) else (jn (fun (y_111 : Unit) => (if y_65 = 0 then (if y_81 = 0 then (wp_X5_write (20 + r_1) 0 h0_draft_length (f_h0_draft_code) (fun (r_157 : Int32) => (un2 (fun (u_157_0 : Int32) (u_157_1 : Nat → Int32) => (Q r_157 ((h0_now + 1), (h0_parts + 1), u_157_0, u_157_1)))))) else (wp_X5_tokenNow h0_tokenCount (h0_now + 1) (f_h0_tokens) (fun (r_162 : Int32) => (if (r_162 - 1000) < 0 then (Q 0 ((h0_now + 1), (h0_parts + 1), h0_draft_length, f_h0_draft_code)) else (if (r_162 - 1000) < y_81 then (if r_1 = 10 then (wp_X5_write 13 (r_162 - 1000) h0_draft_length (f_h0_draft_code) (fun (r_213 : Int32) => (un2 (fun (u_213_0 : Int32) (u_213_1 : Nat → Int32) => (Q r_213 (((h0_now + 1) + 1), (h0_parts + 1), u_213_0, u_213_1)))))) else (wp_X5_write (20 + r_1) (r_162 - 1000) h0_draft_length (f_h0_draft_code) (fun (r_213 : Int32) => (un2 (fun (u_213_0 : Int32) (u_213_1 : Nat → Int32) => (Q r_213 (((h0_now + 1) + 1), (h0_parts + 1), u_213_0, u_213_1))))))) else (Q 0 ((h0_now + 1), (h0_parts + 1), h0_draft_length, f_h0_draft_code))))))) else (wp_X5_write 1 (r_1 - 1000) h0_draft_length (f_h0_draft_code) (fun (r_142 : Int32) => (un2 (fun (u_142_0 : Int32) (u_142_1 : Nat → Int32) => (Q r_142 ((h0_now + 1), (h0_parts + 1), u_142_0, u_142_1)))))))) (fun k_111 => (if y_65 = 0 then (if y_81 = 0 then (wp_X5_isPlainWord r_1 h0_asOrders (fun (r_103 : Int32) => (if r_103 = 0 then (Q 0 (h0_now, h0_parts, h0_draft_length, f_h0_draft_code)) else (k_111 ())))) else (k_111 ())) else (k_111 ())))))) (fun k_81 => (if h0_asOrders = 0 then (k_81 0) else (wp_X5_choicesBehind r_1 (fun (r_74 : Int32) => (k_81 r_74))))))) (fun k_65 => (if r_1 < 1000 then (k_65 0) else (if 2000 < r_1 then (k_65 0) else (k_65 1))))))))
set_option maxRecDepth 100000 in
def wl_X5_readSum_17 (a : Int32) (h0_length : Int32) (h0_tokenCount : Int32) (h0_asOrders : Int32) (h0_faultPlace : Int32) (f_h0_tokens : Nat → Int32) (h0_draft_clauses : Int32) (wS : Int32 → Int32 → Int32 → Int32 → Int32 → Int32 → Int32 → (Nat → Int32) → Int32 → Int32 → (Nat → Int32) → (Int32 → (Int32 × Int32 × Int32 × (Nat → Int32)) → Prop) → Prop) (Q : Int32 → (Int32 × Int32 × Int32 × (Nat → Int32)) → Prop) (Qb : Int32 → Int32 → Int32 → Int32 → Int32 → (Nat → Int32) → Prop) : Nat → Int32 → Int32 → Int32 → Int32 → Int32 → (Nat → Int32) → Prop
  | 0, _, _, _, _, _, _ => False
  | n + 1, x_17_0, x_17_1, x_17_2, x_17_3, x_17_4, x_17_5 => (if 400 ≤ x_17_0 then (Qb x_17_0 x_17_1 x_17_2 x_17_3 x_17_4 x_17_5) else (wS a h0_length h0_tokenCount x_17_2 x_17_3 h0_asOrders h0_faultPlace (f_h0_tokens) h0_draft_clauses x_17_4 (x_17_5) (fun (r_27 : Int32) => (un4 (fun (u_27_0 : Int32) (u_27_1 : Int32) (u_27_2 : Int32) (u_27_3 : Nat → Int32) => (if r_27 = 0 then (Q 0 (u_27_0, u_27_1, u_27_2, u_27_3)) else (wp_X5_write x_17_1 0 u_27_2 (u_27_3) (fun (r_37 : Int32) => (un2 (fun (u_37_0 : Int32) (u_37_1 : Nat → Int32) => (if r_37 = 0 then (Q 0 (u_27_0, u_27_1, u_37_0, u_37_1)) else (wp_X5_tokenNow h0_tokenCount u_27_0 (f_h0_tokens) (fun (r_46 : Int32) => (wp_X5_timingOf r_46 (fun (r_49 : Int32) => (if r_49 = (-1) then (Qb x_17_0 r_49 u_27_0 u_27_1 u_37_0 u_37_1) else (wl_X5_readSum_17 a h0_length h0_tokenCount h0_asOrders h0_faultPlace f_h0_tokens h0_draft_clauses wS Q Qb n (x_17_0 + 1) r_49 (u_27_0 + 1) u_27_1 u_37_0 u_37_1)))))))))))))))))
set_option maxRecDepth 100000 in
def wl_X5_readSum_4 (a : Int32) (h0_length : Int32) (h0_tokenCount : Int32) (h0_asOrders : Int32) (h0_faultPlace : Int32) (f_h0_tokens : Nat → Int32) (h0_draft_clauses : Int32) (wS : Int32 → Int32 → Int32 → Int32 → Int32 → Int32 → Int32 → (Nat → Int32) → Int32 → Int32 → (Nat → Int32) → (Int32 → (Int32 × Int32 × Int32 × (Nat → Int32)) → Prop) → Prop) (Q : Int32 → (Int32 × Int32 × Int32 × (Nat → Int32)) → Prop) (Qb : Int32 → Int32 → Int32 → Int32 → Int32 → (Nat → Int32) → Prop) : Nat → Int32 → Int32 → Int32 → Int32 → Int32 → (Nat → Int32) → Prop
  | 0, _, _, _, _, _, _ => False
  | n + 1, x_4_0, x_4_1, x_4_2, x_4_3, x_4_4, x_4_5 => (if 400 ≤ x_4_0 then (Qb x_4_0 x_4_1 x_4_2 x_4_3 x_4_4 x_4_5) else (wl_X5_readSum_17 a h0_length h0_tokenCount h0_asOrders h0_faultPlace f_h0_tokens h0_draft_clauses wS Q (fun (x_17_0 : Int32) (x_17_1 : Int32) (x_17_2 : Int32) (x_17_3 : Int32) (x_17_4 : Int32) (x_17_5 : Nat → Int32) => (wp_X5_write x_4_1 0 x_17_4 (x_17_5) (fun (r_82 : Int32) => (un2 (fun (u_82_0 : Int32) (u_82_1 : Nat → Int32) => (if r_82 = 0 then (Q 0 (x_17_2, x_17_3, u_82_0, u_82_1)) else (wp_X5_tokenNow h0_tokenCount x_17_2 (f_h0_tokens) (fun (r_91 : Int32) => (wp_X5_addingOf r_91 (fun (r_94 : Int32) => (if r_94 = (-1) then (Q 1 (x_17_2, x_17_3, u_82_0, u_82_1)) else (wl_X5_readSum_4 a h0_length h0_tokenCount h0_asOrders h0_faultPlace f_h0_tokens h0_draft_clauses wS Q Qb n (x_4_0 + 1) r_94 (x_17_2 + 1) x_17_3 u_82_0 u_82_1)))))))))))) 1000000000000 0 (-1) x_4_2 x_4_3 x_4_4 x_4_5))
set_option maxRecDepth 100000 in
def wp_X5_readSum (wS : Int32 → Int32 → Int32 → Int32 → Int32 → Int32 → Int32 → (Nat → Int32) → Int32 → Int32 → (Nat → Int32) → (Int32 → (Int32 × Int32 × Int32 × (Nat → Int32)) → Prop) → Prop) (a : Int32) (h0_length : Int32) (h0_tokenCount : Int32) (h0_now : Int32) (h0_parts : Int32) (h0_asOrders : Int32) (h0_faultPlace : Int32) (f_h0_tokens : Nat → Int32) (h0_draft_clauses : Int32) (h0_draft_length : Int32) (f_h0_draft_code : Nat → Int32) (Q : Int32 → (Int32 × Int32 × Int32 × (Nat → Int32)) → Prop) : Prop := (wl_X5_readSum_4 a h0_length h0_tokenCount h0_asOrders h0_faultPlace f_h0_tokens h0_draft_clauses wS Q (fun (x_4_0 : Int32) (x_4_1 : Int32) (x_4_2 : Int32) (x_4_3 : Int32) (x_4_4 : Int32) (x_4_5 : Nat → Int32) => (Q 0 (x_4_2, x_4_3, x_4_4, x_4_5))) 1000000000000 0 (-1) h0_now h0_parts h0_draft_length f_h0_draft_code)
set_option maxRecDepth 100000 in
def wq_sum : Nat → Int32 → Int32 → Int32 → Int32 → Int32 → Int32 → Int32 → (Nat → Int32) → Int32 → Int32 → (Nat → Int32) → (Int32 → (Int32 × Int32 × Int32 × (Nat → Int32)) → Prop) → Prop
  | 0 => fun _ _ _ _ _ _ _ _ _ _ _ _ => False
  | n + 1 => wp_X5_readSum (wp_X5_readPart (wq_sum n))
set_option maxRecDepth 100000 in
def wl_X5_readPlain_4 (h0_tokenCount : Int32) (f_h0_tokens : Nat → Int32) (Qb : Int32 → Int32 → Int32 → Prop) : Nat → Int32 → Int32 → Int32 → Prop
  | 0, _, _, _ => False
  | n + 1, x_4_0, x_4_1, x_4_2 => (if 400 ≤ x_4_0 then (Qb x_4_0 x_4_1 x_4_2) else (wp_X5_take 8 h0_tokenCount x_4_2 (f_h0_tokens) (fun (r_14 : Int32) => (fun (u_14 : Int32) => (if r_14 = 0 then (Qb x_4_0 x_4_1 u_14) else (if x_4_1 = 0 then (wl_X5_readPlain_4 h0_tokenCount f_h0_tokens Qb n (x_4_0 + 1) 1 u_14) else (wl_X5_readPlain_4 h0_tokenCount f_h0_tokens Qb n (x_4_0 + 1) 0 u_14)))))))
set_option maxRecDepth 100000 in
def wp_X5_readPlain (wS : Int32 → Int32 → Int32 → Int32 → Int32 → Int32 → Int32 → (Nat → Int32) → Int32 → Int32 → (Nat → Int32) → (Int32 → (Int32 × Int32 × Int32 × (Nat → Int32)) → Prop) → Prop) (a : Int32) (h0_length : Int32) (h0_tokenCount : Int32) (h0_now : Int32) (h0_parts : Int32) (h0_asOrders : Int32) (h0_faultPlace : Int32) (f_h0_tokens : Nat → Int32) (h0_draft_clauses : Int32) (h0_draft_length : Int32) (f_h0_draft_code : Nat → Int32) (Q : Int32 → (Int32 × Int32 × Int32 × (Nat → Int32)) → Prop) : Prop := (wl_X5_readPlain_4 h0_tokenCount f_h0_tokens (fun (x_4_0 : Int32) (x_4_1 : Int32) (x_4_2 : Int32) => (wp_X5_tokenNow h0_tokenCount x_4_2 (f_h0_tokens) (fun (r_37 : Int32) => (jn (un4 (fun (y_130_0 : Int32) (y_130_1 : Int32) (y_130_2 : Int32) (y_130_3 : Nat → Int32) => (if x_4_1 = 0 then (Q 1 (y_130_0, y_130_1, y_130_2, y_130_3)) else (wp_X5_write 10 0 y_130_2 (y_130_3) (fun (r_138 : Int32) => (un2 (fun (u_138_0 : Int32) (u_138_1 : Nat → Int32) => (if r_138 = 0 then (Q 0 (y_130_0, y_130_1, u_138_0, u_138_1)) else (Q 1 (y_130_0, y_130_1, u_138_0, u_138_1)))))))))) (fun k_130 => (if r_37 = 140 then (wp_X5_open a x_4_2 (fun (r_48 : Int32) => (fun (u_48 : Int32) => (if r_48 = 0 then (Q 0 (u_48, h0_parts, h0_draft_length, f_h0_draft_code)) else (wS (a + 1) h0_length h0_tokenCount u_48 h0_parts h0_asOrders h0_faultPlace (f_h0_tokens) h0_draft_clauses h0_draft_length (f_h0_draft_code) (fun (r_58 : Int32) => (un4 (fun (u_58_0 : Int32) (u_58_1 : Int32) (u_58_2 : Int32) (u_58_3 : Nat → Int32) => (if r_58 = 0 then (Q 0 (u_58_0, u_58_1, u_58_2, u_58_3)) else (wp_X5_take 141 h0_tokenCount u_58_0 (f_h0_tokens) (fun (r_68 : Int32) => (fun (u_68 : Int32) => (if r_68 = 0 then (Q 0 (u_68, u_58_1, u_58_2, u_58_3)) else (k_130 (u_68, u_58_1, u_58_2, u_58_3))))))))))))))) else ((wq_sum 9) a h0_length h0_tokenCount x_4_2 h0_parts h0_asOrders h0_faultPlace (f_h0_tokens) h0_draft_clauses h0_draft_length (f_h0_draft_code) (fun (r_78 : Int32) => (un4 (fun (u_78_0 : Int32) (u_78_1 : Int32) (u_78_2 : Int32) (u_78_3 : Nat → Int32) => (if r_78 = 0 then (Q 0 (u_78_0, u_78_1, u_78_2, u_78_3)) else (wp_X5_tokenNow h0_tokenCount u_78_0 (f_h0_tokens) (fun (r_87 : Int32) => (wp_X5_comparisonOf r_87 (fun (r_90 : Int32) => (if r_90 = (-1) then (Q 0 (u_78_0, u_78_1, u_78_2, u_78_3)) else ((wq_sum 9) a h0_length h0_tokenCount (u_78_0 + 1) u_78_1 h0_asOrders h0_faultPlace (f_h0_tokens) h0_draft_clauses u_78_2 (u_78_3) (fun (r_113 : Int32) => (un4 (fun (u_113_0 : Int32) (u_113_1 : Int32) (u_113_2 : Int32) (u_113_3 : Nat → Int32) => (if r_113 = 0 then (Q 0 (u_113_0, u_113_1, u_113_2, u_113_3)) else (wp_X5_write r_90 0 u_113_2 (u_113_3) (fun (r_122 : Int32) => (un2 (fun (u_122_0 : Int32) (u_122_1 : Nat → Int32) => (if r_122 = 0 then (Q 0 (u_113_0, u_113_1, u_122_0, u_122_1)) else (k_130 (u_113_0, u_113_1, u_122_0, u_122_1)))))))))))))))))))))))))))) 1000000000000 0 0 h0_now)
set_option maxRecDepth 100000 in
def wl_X5_readTest_17 (a : Int32) (h0_length : Int32) (h0_tokenCount : Int32) (h0_asOrders : Int32) (h0_faultPlace : Int32) (f_h0_tokens : Nat → Int32) (h0_draft_clauses : Int32) (wS : Int32 → Int32 → Int32 → Int32 → Int32 → Int32 → Int32 → (Nat → Int32) → Int32 → Int32 → (Nat → Int32) → (Int32 → (Int32 × Int32 × Int32 × (Nat → Int32)) → Prop) → Prop) (Q : Int32 → (Int32 × Int32 × Int32 × (Nat → Int32)) → Prop) (Qb : Int32 → Int32 → Int32 → Int32 → Int32 → (Nat → Int32) → Prop) : Nat → Int32 → Int32 → Int32 → Int32 → Int32 → (Nat → Int32) → Prop
  | 0, _, _, _, _, _, _ => False
  | n + 1, x_17_0, x_17_1, x_17_2, x_17_3, x_17_4, x_17_5 => (if 400 ≤ x_17_0 then (Qb x_17_0 x_17_1 x_17_2 x_17_3 x_17_4 x_17_5) else (wS a h0_length h0_tokenCount x_17_2 x_17_3 h0_asOrders h0_faultPlace (f_h0_tokens) h0_draft_clauses x_17_4 (x_17_5) (fun (r_27 : Int32) => (un4 (fun (u_27_0 : Int32) (u_27_1 : Int32) (u_27_2 : Int32) (u_27_3 : Nat → Int32) => (if r_27 = 0 then (Q 0 (u_27_0, u_27_1, u_27_2, u_27_3)) else (wp_X5_aimHere x_17_1 u_27_2 (u_27_3) (fun (u_38 : Nat → Int32) => (wp_X5_take 7 h0_tokenCount u_27_0 (f_h0_tokens) (fun (r_44 : Int32) => (fun (u_44 : Int32) => (if r_44 = 0 then (Qb x_17_0 x_17_1 u_44 u_27_1 u_27_2 u_38) else (wp_X5_write 11 0 u_27_2 (u_38) (fun (r_66 : Int32) => (un2 (fun (u_66_0 : Int32) (u_66_1 : Nat → Int32) => (if r_66 = 0 then (Q 0 (u_44, u_27_1, u_66_0, u_66_1)) else (wl_X5_readTest_17 a h0_length h0_tokenCount h0_asOrders h0_faultPlace f_h0_tokens h0_draft_clauses wS Q Qb n (x_17_0 + 1) u_27_2 u_44 u_27_1 u_66_0 u_66_1))))))))))))))))))
set_option maxRecDepth 100000 in
def wl_X5_readTest_4 (a : Int32) (h0_length : Int32) (h0_tokenCount : Int32) (h0_asOrders : Int32) (h0_faultPlace : Int32) (f_h0_tokens : Nat → Int32) (h0_draft_clauses : Int32) (wS : Int32 → Int32 → Int32 → Int32 → Int32 → Int32 → Int32 → (Nat → Int32) → Int32 → Int32 → (Nat → Int32) → (Int32 → (Int32 × Int32 × Int32 × (Nat → Int32)) → Prop) → Prop) (Q : Int32 → (Int32 × Int32 × Int32 × (Nat → Int32)) → Prop) (Qb : Int32 → Int32 → Int32 → Int32 → Int32 → (Nat → Int32) → Prop) : Nat → Int32 → Int32 → Int32 → Int32 → Int32 → (Nat → Int32) → Prop
  | 0, _, _, _, _, _, _ => False
  | n + 1, x_4_0, x_4_1, x_4_2, x_4_3, x_4_4, x_4_5 => (if 400 ≤ x_4_0 then (Qb x_4_0 x_4_1 x_4_2 x_4_3 x_4_4 x_4_5) else (wl_X5_readTest_17 a h0_length h0_tokenCount h0_asOrders h0_faultPlace f_h0_tokens h0_draft_clauses wS Q (fun (x_17_0 : Int32) (x_17_1 : Int32) (x_17_2 : Int32) (x_17_3 : Int32) (x_17_4 : Int32) (x_17_5 : Nat → Int32) => (wp_X5_aimHere x_4_1 x_17_4 (x_17_5) (fun (u_82 : Nat → Int32) => (wp_X5_take 6 h0_tokenCount x_17_2 (f_h0_tokens) (fun (r_88 : Int32) => (fun (u_88 : Int32) => (if r_88 = 0 then (Q 1 (u_88, x_17_3, x_17_4, u_82)) else (wp_X5_write 12 0 x_17_4 (u_82) (fun (r_108 : Int32) => (un2 (fun (u_108_0 : Int32) (u_108_1 : Nat → Int32) => (if r_108 = 0 then (Q 0 (u_88, x_17_3, u_108_0, u_108_1)) else (wl_X5_readTest_4 a h0_length h0_tokenCount h0_asOrders h0_faultPlace f_h0_tokens h0_draft_clauses wS Q Qb n (x_4_0 + 1) x_17_4 u_88 x_17_3 u_108_0 u_108_1))))))))))))) 1000000000000 0 (-1) x_4_2 x_4_3 x_4_4 x_4_5))
set_option maxRecDepth 100000 in
def wp_X5_readTest (wS : Int32 → Int32 → Int32 → Int32 → Int32 → Int32 → Int32 → (Nat → Int32) → Int32 → Int32 → (Nat → Int32) → (Int32 → (Int32 × Int32 × Int32 × (Nat → Int32)) → Prop) → Prop) (a : Int32) (h0_length : Int32) (h0_tokenCount : Int32) (h0_now : Int32) (h0_parts : Int32) (h0_asOrders : Int32) (h0_faultPlace : Int32) (f_h0_tokens : Nat → Int32) (h0_draft_clauses : Int32) (h0_draft_length : Int32) (f_h0_draft_code : Nat → Int32) (Q : Int32 → (Int32 × Int32 × Int32 × (Nat → Int32)) → Prop) : Prop := (wl_X5_readTest_4 a h0_length h0_tokenCount h0_asOrders h0_faultPlace f_h0_tokens h0_draft_clauses wS Q (fun (x_4_0 : Int32) (x_4_1 : Int32) (x_4_2 : Int32) (x_4_3 : Int32) (x_4_4 : Int32) (x_4_5 : Nat → Int32) => (Q 0 (x_4_2, x_4_3, x_4_4, x_4_5))) 1000000000000 0 (-1) h0_now h0_parts h0_draft_length f_h0_draft_code)
set_option maxRecDepth 100000 in
def wq_test : Nat → Int32 → Int32 → Int32 → Int32 → Int32 → Int32 → Int32 → (Nat → Int32) → Int32 → Int32 → (Nat → Int32) → (Int32 → (Int32 × Int32 × Int32 × (Nat → Int32)) → Prop) → Prop
  | 0 => fun _ _ _ _ _ _ _ _ _ _ _ _ => False
  | n + 1 => wp_X5_readTest (wp_X5_readPlain (wq_test n))
set_option maxRecDepth 100000 in
def wp_X8_init (a : Int32) (b : Int32) (Q : (Nat × Nat) → Prop) : Prop := ((¬ (5 * (if 0 < a then a else 0)) < 0 ∧ (5 * (if 0 < a then a else 0)).toNatClampNeg ≤ 60) ∧ (∀ q_1 : Nat, ((¬ (if 0 < b then b else 0) < 0 ∧ (if 0 < b then b else 0).toNatClampNeg ≤ 400) ∧ (∀ q_3 : Nat, (Q (q_1, q_3))))))
set_option maxRecDepth 100000 in
def wp_X8_trimmed (h0_clauses : Int32) (h0_length : Int32) (n_h0_heads : Nat) (n_h0_code : Nat) (Q : (Nat × Nat × Nat) → Prop) : Prop := (∀ q_1 : Nat, (wp_X8_init h0_clauses h0_length (un2 (fun (u_12_0 : Nat) (u_12_1 : Nat) => (¬ (Int32.ofNat (5 * (if 0 < h0_clauses then h0_clauses else 0)).toNatClampNeg) < 0 ∧ (0 + (Int32.ofNat (5 * (if 0 < h0_clauses then h0_clauses else 0)).toNatClampNeg).toNatClampNeg ≤ n_h0_heads ∧ (0 + (Int32.ofNat (5 * (if 0 < h0_clauses then h0_clauses else 0)).toNatClampNeg).toNatClampNeg ≤ (5 * (if 0 < h0_clauses then h0_clauses else 0)).toNatClampNeg ∧ (¬ (Int32.ofNat (if 0 < h0_length then h0_length else 0).toNatClampNeg) < 0 ∧ (0 + (Int32.ofNat (if 0 < h0_length then h0_length else 0).toNatClampNeg).toNatClampNeg ≤ n_h0_code ∧ (0 + (Int32.ofNat (if 0 < h0_length then h0_length else 0).toNatClampNeg).toNatClampNeg ≤ (if 0 < h0_length then h0_length else 0).toNatClampNeg ∧ (Q (q_1, u_12_0, u_12_1))))))))))))
set_option maxRecDepth 100000 in
def wp_X5_readSumOf (a : Int32) (h0_length : Int32) (h0_tokenCount : Int32) (h0_now : Int32) (h0_parts : Int32) (h0_asOrders : Int32) (h0_faultPlace : Int32) (h0_draft_clauses : Int32) (h0_draft_length : Int32) (f_h0_draft_heads : Nat → Int32) (f_h0_tokens : Nat → Int32) (f_h0_draft_code : Nat → Int32) (Q : Int32 → (Int32 × Int32 × Int32 × (Nat → Int32) × (Nat → Int32)) → Prop) : Prop := (wp_X5_setHead a h0_draft_length h0_draft_clauses (f_h0_draft_heads) (fun (u_9 : Nat → Int32) => ((wq_sum 9) 0 h0_length h0_tokenCount h0_now h0_parts h0_asOrders h0_faultPlace (f_h0_tokens) h0_draft_clauses h0_draft_length (f_h0_draft_code) (fun (r_14 : Int32) => (un4 (fun (u_14_0 : Int32) (u_14_1 : Int32) (u_14_2 : Int32) (u_14_3 : Nat → Int32) => (if r_14 = 0 then (Q 0 (u_14_0, u_14_1, u_14_2, u_9, u_14_3)) else (wp_X5_write 0 0 u_14_2 (u_14_3) (fun (r_23 : Int32) => (un2 (fun (u_23_0 : Int32) (u_23_1 : Nat → Int32) => (if r_23 = 0 then (Q 0 (u_14_0, u_14_1, u_23_0, u_9, u_23_1)) else (Q 1 (u_14_0, u_14_1, u_23_0, u_9, u_23_1))))))))))))))
set_option maxRecDepth 100000 in
def wp_X5_readIf (h0_length : Int32) (h0_tokenCount : Int32) (h0_now : Int32) (h0_parts : Int32) (h0_asOrders : Int32) (h0_faultPlace : Int32) (f_h0_tokens : Nat → Int32) (h0_draft_clauses : Int32) (h0_draft_length : Int32) (f_h0_draft_heads : Nat → Int32) (f_h0_draft_code : Nat → Int32) (Q : Int32 → (Int32 × Int32 × Int32 × (Nat → Int32) × (Nat → Int32)) → Prop) : Prop := (wp_X5_take 5 h0_tokenCount h0_now (f_h0_tokens) (fun (r_2 : Int32) => (fun (u_2 : Int32) => (if r_2 = 0 then (Q 1 (u_2, h0_parts, h0_draft_length, f_h0_draft_heads, f_h0_draft_code)) else (wp_X5_setHead 3 h0_draft_length h0_draft_clauses (f_h0_draft_heads) (fun (u_19 : Nat → Int32) => ((wq_test 9) 0 h0_length h0_tokenCount u_2 h0_parts h0_asOrders h0_faultPlace (f_h0_tokens) h0_draft_clauses h0_draft_length (f_h0_draft_code) (fun (r_24 : Int32) => (un4 (fun (u_24_0 : Int32) (u_24_1 : Int32) (u_24_2 : Int32) (u_24_3 : Nat → Int32) => (if r_24 = 0 then (Q 0 (u_24_0, u_24_1, u_24_2, u_19, u_24_3)) else (wp_X5_write 0 0 u_24_2 (u_24_3) (fun (r_33 : Int32) => (un2 (fun (u_33_0 : Int32) (u_33_1 : Nat → Int32) => (if r_33 = 0 then (Q 0 (u_24_0, u_24_1, u_33_0, u_19, u_33_1)) else (Q 1 (u_24_0, u_24_1, u_33_0, u_19, u_33_1))))))))))))))))))
set_option maxRecDepth 100000 in
def wp_X5_readRule (h0_length : Int32) (h0_tokenCount : Int32) (h0_now : Int32) (h0_parts : Int32) (h0_asOrders : Int32) (h0_faultPlace : Int32) (f_h0_tokens : Nat → Int32) (h0_draft_clauses : Int32) (h0_draft_length : Int32) (f_h0_draft_heads : Nat → Int32) (f_h0_draft_code : Nat → Int32) (Q : Int32 → (Int32 × Int32 × Int32 × (Nat → Int32) × (Nat → Int32)) → Prop) : Prop := (wp_X5_tokenNow h0_tokenCount h0_now (f_h0_tokens) (fun (r_1 : Int32) => (if r_1 < 0 then (Q 0 (h0_now, h0_parts, h0_draft_length, f_h0_draft_heads, f_h0_draft_code)) else (if r_1 ≤ 4 then (wp_X5_setHead 0 r_1 h0_draft_clauses (f_h0_draft_heads) (fun (u_29 : Nat → Int32) => (if r_1 = 4 then (Q 1 ((h0_now + 1), h0_parts, h0_draft_length, u_29, f_h0_draft_code)) else (wp_X5_readSumOf 1 h0_length h0_tokenCount (h0_now + 1) h0_parts h0_asOrders h0_faultPlace h0_draft_clauses h0_draft_length (u_29) (f_h0_tokens) (f_h0_draft_code) (fun (r_39 : Int32) => (un5 (fun (u_39_0 : Int32) (u_39_1 : Int32) (u_39_2 : Int32) (u_39_3 : Nat → Int32) (u_39_4 : Nat → Int32) => (if r_39 = 0 then (Q 0 (u_39_0, u_39_1, u_39_2, u_39_3, u_39_4)) else (Q 1 (u_39_0, u_39_1, u_39_2, u_39_3, u_39_4)))))))))) else (Q 0 (h0_now, h0_parts, h0_draft_length, f_h0_draft_heads, f_h0_draft_code))))))
set_option maxRecDepth 100000 in
def wp_X5_readOrder (h0_length : Int32) (h0_tokenCount : Int32) (h0_now : Int32) (h0_parts : Int32) (h0_asOrders : Int32) (h0_faultPlace : Int32) (f_h0_tokens : Nat → Int32) (h0_draft_clauses : Int32) (h0_draft_length : Int32) (f_h0_draft_heads : Nat → Int32) (f_h0_draft_code : Nat → Int32) (Q : Int32 → (Int32 × Int32 × Int32 × (Nat → Int32) × (Nat → Int32)) → Prop) : Prop := (wp_X5_tokenNow h0_tokenCount h0_now (f_h0_tokens) (fun (r_1 : Int32) => (jn (fun (y_31 : Unit) => (wp_X5_setHead 0 r_1 h0_draft_clauses (f_h0_draft_heads) (fun (u_44 : Nat → Int32) => (wp_X5_readSumOf 1 h0_length h0_tokenCount (h0_now + 1) h0_parts h0_asOrders h0_faultPlace h0_draft_clauses h0_draft_length (u_44) (f_h0_tokens) (f_h0_draft_code) (fun (r_49 : Int32) => (un5 (fun (u_49_0 : Int32) (u_49_1 : Int32) (u_49_2 : Int32) (u_49_3 : Nat → Int32) (u_49_4 : Nat → Int32) => (if r_49 = 0 then (Q 0 (u_49_0, u_49_1, u_49_2, u_49_3, u_49_4)) else (jn (un5 (fun (y_82_0 : Int32) (y_82_1 : Int32) (y_82_2 : Int32) (y_82_3 : Nat → Int32) (y_82_4 : Nat → Int32) => (jn (un5 (fun (y_107_0 : Int32) (y_107_1 : Int32) (y_107_2 : Int32) (y_107_3 : Nat → Int32) (y_107_4 : Nat → Int32) => (wp_X5_take 24 h0_tokenCount y_107_0 (f_h0_tokens) (fun (r_110 : Int32) => (fun (u_110 : Int32) => (if r_110 = 0 then (Q 1 (u_110, y_107_1, y_107_2, y_107_3, y_107_4)) else (wp_X5_readTimes h0_tokenCount u_110 (f_h0_tokens) h0_draft_clauses (y_107_3) (fun (r_117 : Int32) => (un2 (fun (u_117_0 : Int32) (u_117_1 : Nat → Int32) => (if r_117 = 0 then (Q 0 (u_117_0, y_107_1, y_107_2, u_117_1, y_107_4)) else (Q 1 (u_117_0, y_107_1, y_107_2, u_117_1, y_107_4))))))))))))) (fun k_107 => (if r_1 = 22 then (wp_X5_take 23 h0_tokenCount y_82_0 (f_h0_tokens) (fun (r_91 : Int32) => (fun (u_91 : Int32) => (if r_91 = 0 then (Q 0 (u_91, y_82_1, y_82_2, y_82_3, y_82_4)) else (wp_X5_readSumOf 2 h0_length h0_tokenCount u_91 y_82_1 h0_asOrders h0_faultPlace h0_draft_clauses y_82_2 (y_82_3) (f_h0_tokens) (y_82_4) (fun (r_99 : Int32) => (un5 (fun (u_99_0 : Int32) (u_99_1 : Int32) (u_99_2 : Int32) (u_99_3 : Nat → Int32) (u_99_4 : Nat → Int32) => (if r_99 = 0 then (Q 0 (u_99_0, u_99_1, u_99_2, u_99_3, u_99_4)) else (k_107 (u_99_0, u_99_1, u_99_2, u_99_3, u_99_4))))))))))) else (k_107 (y_82_0, y_82_1, y_82_2, y_82_3, y_82_4))))))) (fun k_82 => (if r_1 = 18 then (wp_X5_take 19 h0_tokenCount u_49_0 (f_h0_tokens) (fun (r_66 : Int32) => (fun (u_66 : Int32) => (if r_66 = 0 then (Q 0 (u_66, u_49_1, u_49_2, u_49_3, u_49_4)) else (wp_X5_readSumOf 2 h0_length h0_tokenCount u_66 u_49_1 h0_asOrders h0_faultPlace h0_draft_clauses u_49_2 (u_49_3) (f_h0_tokens) (u_49_4) (fun (r_74 : Int32) => (un5 (fun (u_74_0 : Int32) (u_74_1 : Int32) (u_74_2 : Int32) (u_74_3 : Nat → Int32) (u_74_4 : Nat → Int32) => (if r_74 = 0 then (Q 0 (u_74_0, u_74_1, u_74_2, u_74_3, u_74_4)) else (k_82 (u_74_0, u_74_1, u_74_2, u_74_3, u_74_4))))))))))) else (k_82 (u_49_0, u_49_1, u_49_2, u_49_3, u_49_4))))))))))))) (fun k_31 => (if r_1 = 18 then (k_31 ()) else (if r_1 = 20 then (k_31 ()) else (if r_1 = 21 then (k_31 ()) else (if r_1 = 22 then (k_31 ()) else (Q 0 (h0_now, h0_parts, h0_draft_length, f_h0_draft_heads, f_h0_draft_code))))))))))
set_option maxRecDepth 100000 in
def wl_X10_copyFrom_53 (f_p0_laws : Nat → Option Nat) (TT : Nat → Prop) (Qb : Int32 → (Nat → Option Nat) → Prop) : Nat → Int32 → (Nat → Option Nat) → Prop
  | 0, _, _ => False
  | n + 1, x_53_0, x_53_1 => (if 6 ≤ x_53_0 then (Qb x_53_0 x_53_1) else (vp_in x_53_0 6 ∧ (vp_in x_53_0 6 ∧ ((∀ v, (f_p0_laws x_53_0.toNatClampNeg) = some v → TT v) ∧ (wl_X10_copyFrom_53 f_p0_laws TT Qb n (x_53_0 + 1) (va_up x_53_1 x_53_0.toNatClampNeg ((f_p0_laws x_53_0.toNatClampNeg))))))))
set_option maxRecDepth 100000 in
def wp_X10_copyFrom (p0_lawCount : Int32) (p0_force : Int32) (p0_rock_dug : Int64) (f_p0_rock_kind : Nat → Int32) (f_h0_rock_kind : Nat → Int32) (f_p0_rock_hard : Nat → Int32) (f_h0_rock_hard : Nat → Int32) (f_p0_rock_water : Nat → Int32) (f_h0_rock_water : Nat → Int32) (p0_crew_count : Int32) (f_p0_crew_cell : Nat → Int32) (f_h0_crew_cell : Nat → Int32) (f_p0_crew_buckets : Nat → Int32) (f_h0_crew_buckets : Nat → Int32) (p0_folk_listeners : Int32) (p0_folk_noises : Int32) (p0_folk_hushed : Int32) (p0_folk_hearsay : Int32) (p0_folk_wells : Int32) (f_p0_folk_column : Nat → Int32) (f_h0_folk_column : Nat → Int32) (f_p0_folk_ear : Nat → Int32) (f_h0_folk_ear : Nat → Int32) (f_p0_folk_noiseColumn : Nat → Int32) (f_h0_folk_noiseColumn : Nat → Int32) (f_p0_folk_noiseLoud : Nat → Int32) (f_h0_folk_noiseLoud : Nat → Int32) (f_p0_folk_hearsayColumn : Nat → Int32) (f_h0_folk_hearsayColumn : Nat → Int32) (f_p0_folk_hearsayLoud : Nat → Int32) (f_h0_folk_hearsayLoud : Nat → Int32) (f_p0_folk_sounds : Nat → Int32) (f_h0_folk_sounds : Nat → Int32) (f_p0_folk_wet : Nat → Int32) (f_h0_folk_wet : Nat → Int32) (f_h0_term : Nat → Int32) (f_p0_term : Nat → Int32) (f_p0_laws : Nat → Option Nat) (f_h0_laws : Nat → Option Nat) (TT : Nat → Prop) (Q : (Int32 × Int32 × Int64 × (Nat → Int32) × (Nat → Int32) × (Nat → Int32) × Int32 × (Nat → Int32) × (Nat → Int32) × Int32 × Int32 × Int32 × Int32 × Int32 × (Nat → Int32) × (Nat → Int32) × (Nat → Int32) × (Nat → Int32) × (Nat → Int32) × (Nat → Int32) × (Nat → Int32) × (Nat → Int32) × (Nat → Int32) × (Nat → Option Nat)) → Prop) : Prop := (wp_X6_copyFrom p0_rock_dug (f_p0_rock_kind) (f_h0_rock_kind) (f_p0_rock_hard) (f_h0_rock_hard) (f_p0_rock_water) (f_h0_rock_water) (un4 (fun (u_8_0 : Int64) (u_8_1 : Nat → Int32) (u_8_2 : Nat → Int32) (u_8_3 : Nat → Int32) => (wp_X1_copyFrom p0_crew_count (f_p0_crew_cell) (f_h0_crew_cell) (f_p0_crew_buckets) (f_h0_crew_buckets) (un3 (fun (u_19_0 : Int32) (u_19_1 : Nat → Int32) (u_19_2 : Nat → Int32) => (wp_X4_copyFrom p0_folk_listeners p0_folk_noises p0_folk_hushed p0_folk_hearsay p0_folk_wells (f_p0_folk_column) (f_h0_folk_column) (f_p0_folk_ear) (f_h0_folk_ear) (f_p0_folk_noiseColumn) (f_h0_folk_noiseColumn) (f_p0_folk_noiseLoud) (f_h0_folk_noiseLoud) (f_p0_folk_hearsayColumn) (f_h0_folk_hearsayColumn) (f_p0_folk_hearsayLoud) (f_h0_folk_hearsayLoud) (f_p0_folk_sounds) (f_h0_folk_sounds) (f_p0_folk_wet) (f_h0_folk_wet) (un13 (fun (u_30_0 : Int32) (u_30_1 : Int32) (u_30_2 : Int32) (u_30_3 : Int32) (u_30_4 : Int32) (u_30_5 : Nat → Int32) (u_30_6 : Nat → Int32) (u_30_7 : Nat → Int32) (u_30_8 : Nat → Int32) (u_30_9 : Nat → Int32) (u_30_10 : Nat → Int32) (u_30_11 : Nat → Int32) (u_30_12 : Nat → Int32) => (wl_X10_copyFrom_53 f_p0_laws TT (fun (x_53_0 : Int32) (x_53_1 : Nat → Option Nat) => (Q (p0_lawCount, p0_force, u_8_0, u_8_1, u_8_2, u_8_3, u_19_0, u_19_1, u_19_2, u_30_0, u_30_1, u_30_2, u_30_3, u_30_4, u_30_5, u_30_6, u_30_7, u_30_8, u_30_9, u_30_10, u_30_11, u_30_12, (va_cpy f_p0_term f_h0_term 0 0 3), x_53_1))) 1000000000000 0 f_h0_laws))))))))))
set_option maxRecDepth 100000 in
def wp_X11_image (a : Int32) (w0_lawCount : Int32) (w0_force : Int32) (h0_site_world_lawCount : Int32) (h0_site_world_force : Int32) (w0_rock_dug : Int64) (h0_site_world_rock_dug : Int64) (f_h0_site_world_rock_kind : Nat → Int32) (f_w0_rock_kind : Nat → Int32) (f_h0_site_world_rock_hard : Nat → Int32) (f_w0_rock_hard : Nat → Int32) (f_h0_site_world_rock_water : Nat → Int32) (f_w0_rock_water : Nat → Int32) (w0_crew_count : Int32) (h0_site_world_crew_count : Int32) (f_h0_site_world_crew_cell : Nat → Int32) (f_w0_crew_cell : Nat → Int32) (f_h0_site_world_crew_buckets : Nat → Int32) (f_w0_crew_buckets : Nat → Int32) (w0_folk_listeners : Int32) (w0_folk_noises : Int32) (w0_folk_hushed : Int32) (w0_folk_hearsay : Int32) (w0_folk_wells : Int32) (h0_site_world_folk_listeners : Int32) (h0_site_world_folk_noises : Int32) (h0_site_world_folk_hushed : Int32) (h0_site_world_folk_hearsay : Int32) (h0_site_world_folk_wells : Int32) (f_h0_site_world_folk_column : Nat → Int32) (f_w0_folk_column : Nat → Int32) (f_h0_site_world_folk_ear : Nat → Int32) (f_w0_folk_ear : Nat → Int32) (f_h0_site_world_folk_noiseColumn : Nat → Int32) (f_w0_folk_noiseColumn : Nat → Int32) (f_h0_site_world_folk_noiseLoud : Nat → Int32) (f_w0_folk_noiseLoud : Nat → Int32) (f_h0_site_world_folk_hearsayColumn : Nat → Int32) (f_w0_folk_hearsayColumn : Nat → Int32) (f_h0_site_world_folk_hearsayLoud : Nat → Int32) (f_w0_folk_hearsayLoud : Nat → Int32) (f_h0_site_world_folk_sounds : Nat → Int32) (f_w0_folk_sounds : Nat → Int32) (f_h0_site_world_folk_wet : Nat → Int32) (f_w0_folk_wet : Nat → Int32) (f_w0_term : Nat → Int32) (f_h0_site_world_term : Nat → Int32) (f_h0_site_world_laws : Nat → Option Nat) (f_w0_laws : Nat → Option Nat) (f_h0_kept : Nat → Int32) (f_h0_refusals : Nat → Int32) (w1_lawCount : Int32) (w1_force : Int32) (w1_rock_dug : Int64) (f_w1_rock_kind : Nat → Int32) (f_w1_rock_hard : Nat → Int32) (f_w1_rock_water : Nat → Int32) (w1_crew_count : Int32) (f_w1_crew_cell : Nat → Int32) (f_w1_crew_buckets : Nat → Int32) (w1_folk_listeners : Int32) (w1_folk_noises : Int32) (w1_folk_hushed : Int32) (w1_folk_hearsay : Int32) (w1_folk_wells : Int32) (f_w1_folk_column : Nat → Int32) (f_w1_folk_ear : Nat → Int32) (f_w1_folk_noiseColumn : Nat → Int32) (f_w1_folk_noiseLoud : Nat → Int32) (f_w1_folk_hearsayColumn : Nat → Int32) (f_w1_folk_hearsayLoud : Nat → Int32) (f_w1_folk_sounds : Nat → Int32) (f_w1_folk_wet : Nat → Int32) (f_w1_term : Nat → Int32) (f_w1_laws : Nat → Option Nat) (TT : Nat → Prop) (Q : Int32 → (Int32 × Int32 × Int32 × Int64 × (Nat → Int32) × (Nat → Int32) × (Nat → Int32) × Int32 × (Nat → Int32) × (Nat → Int32) × Int32 × Int32 × Int32 × Int32 × Int32 × (Nat → Int32) × (Nat → Int32) × (Nat → Int32) × (Nat → Int32) × (Nat → Int32) × (Nat → Int32) × (Nat → Int32) × (Nat → Int32) × (Nat → Int32) × (Nat → Option Nat) × (Nat → Int32) × (Nat → Int32) × Int32 × Int32 × Int64 × (Nat → Int32) × (Nat → Int32) × (Nat → Int32) × Int32 × (Nat → Int32) × (Nat → Int32) × Int32 × Int32 × Int32 × Int32 × Int32 × (Nat → Int32) × (Nat → Int32) × (Nat → Int32) × (Nat → Int32) × (Nat → Int32) × (Nat → Int32) × (Nat → Int32) × (Nat → Int32) × (Nat → Int32) × (Nat → Option Nat)) → Prop) : Prop := (wp_X11_isWithin a 2 (fun (r_2 : Int32) => (if r_2 = 0 then (wp_X11_settle (-1) (f_h0_refusals) (fun (r_10 : Int32) => (un2 (fun (u_10_0 : Int32) (u_10_1 : Nat → Int32) => (Q r_10 (u_10_0, w0_lawCount, w0_force, w0_rock_dug, f_w0_rock_kind, f_w0_rock_hard, f_w0_rock_water, w0_crew_count, f_w0_crew_cell, f_w0_crew_buckets, w0_folk_listeners, w0_folk_noises, w0_folk_hushed, w0_folk_hearsay, w0_folk_wells, f_w0_folk_column, f_w0_folk_ear, f_w0_folk_noiseColumn, f_w0_folk_noiseLoud, f_w0_folk_hearsayColumn, f_w0_folk_hearsayLoud, f_w0_folk_sounds, f_w0_folk_wet, f_w0_term, f_w0_laws, f_h0_kept, u_10_1, w1_lawCount, w1_force, w1_rock_dug, f_w1_rock_kind, f_w1_rock_hard, f_w1_rock_water, w1_crew_count, f_w1_crew_cell, f_w1_crew_buckets, w1_folk_listeners, w1_folk_noises, w1_folk_hushed, w1_folk_hearsay, w1_folk_wells, f_w1_folk_column, f_w1_folk_ear, f_w1_folk_noiseColumn, f_w1_folk_noiseLoud, f_w1_folk_hearsayColumn, f_w1_folk_hearsayLoud, f_w1_folk_sounds, f_w1_folk_wet, f_w1_term, f_w1_laws)))))) else (vp_in a 2 ∧ (if a = 0 then (wp_X10_copyFrom h0_site_world_lawCount h0_site_world_force h0_site_world_rock_dug (f_h0_site_world_rock_kind) (f_w0_rock_kind) (f_h0_site_world_rock_hard) (f_w0_rock_hard) (f_h0_site_world_rock_water) (f_w0_rock_water) h0_site_world_crew_count (f_h0_site_world_crew_cell) (f_w0_crew_cell) (f_h0_site_world_crew_buckets) (f_w0_crew_buckets) h0_site_world_folk_listeners h0_site_world_folk_noises h0_site_world_folk_hushed h0_site_world_folk_hearsay h0_site_world_folk_wells (f_h0_site_world_folk_column) (f_w0_folk_column) (f_h0_site_world_folk_ear) (f_w0_folk_ear) (f_h0_site_world_folk_noiseColumn) (f_w0_folk_noiseColumn) (f_h0_site_world_folk_noiseLoud) (f_w0_folk_noiseLoud) (f_h0_site_world_folk_hearsayColumn) (f_w0_folk_hearsayColumn) (f_h0_site_world_folk_hearsayLoud) (f_w0_folk_hearsayLoud) (f_h0_site_world_folk_sounds) (f_w0_folk_sounds) (f_h0_site_world_folk_wet) (f_w0_folk_wet) (f_w0_term) (f_h0_site_world_term) (f_h0_site_world_laws) (f_w0_laws) TT (un24 (fun (u_27_0 : Int32) (u_27_1 : Int32) (u_27_2 : Int64) (u_27_3 : Nat → Int32) (u_27_4 : Nat → Int32) (u_27_5 : Nat → Int32) (u_27_6 : Int32) (u_27_7 : Nat → Int32) (u_27_8 : Nat → Int32) (u_27_9 : Int32) (u_27_10 : Int32) (u_27_11 : Int32) (u_27_12 : Int32) (u_27_13 : Int32) (u_27_14 : Nat → Int32) (u_27_15 : Nat → Int32) (u_27_16 : Nat → Int32) (u_27_17 : Nat → Int32) (u_27_18 : Nat → Int32) (u_27_19 : Nat → Int32) (u_27_20 : Nat → Int32) (u_27_21 : Nat → Int32) (u_27_22 : Nat → Int32) (u_27_23 : Nat → Option Nat) => (vp_in a 2 ∧ (wp_X11_settle 0 (f_h0_refusals) (fun (r_39 : Int32) => (un2 (fun (u_39_0 : Int32) (u_39_1 : Nat → Int32) => (Q r_39 (u_39_0, u_27_0, u_27_1, u_27_2, u_27_3, u_27_4, u_27_5, u_27_6, u_27_7, u_27_8, u_27_9, u_27_10, u_27_11, u_27_12, u_27_13, u_27_14, u_27_15, u_27_16, u_27_17, u_27_18, u_27_19, u_27_20, u_27_21, u_27_22, u_27_23, (upd f_h0_kept a.toNatClampNeg 1), u_39_1, w1_lawCount, w1_force, w1_rock_dug, f_w1_rock_kind, f_w1_rock_hard, f_w1_rock_water, w1_crew_count, f_w1_crew_cell, f_w1_crew_buckets, w1_folk_listeners, w1_folk_noises, w1_folk_hushed, w1_folk_hearsay, w1_folk_wells, f_w1_folk_column, f_w1_folk_ear, f_w1_folk_noiseColumn, f_w1_folk_noiseLoud, f_w1_folk_hearsayColumn, f_w1_folk_hearsayLoud, f_w1_folk_sounds, f_w1_folk_wet, f_w1_term, f_w1_laws)))))))))) else (wp_X10_copyFrom h0_site_world_lawCount h0_site_world_force h0_site_world_rock_dug (f_h0_site_world_rock_kind) (f_w1_rock_kind) (f_h0_site_world_rock_hard) (f_w1_rock_hard) (f_h0_site_world_rock_water) (f_w1_rock_water) h0_site_world_crew_count (f_h0_site_world_crew_cell) (f_w1_crew_cell) (f_h0_site_world_crew_buckets) (f_w1_crew_buckets) h0_site_world_folk_listeners h0_site_world_folk_noises h0_site_world_folk_hushed h0_site_world_folk_hearsay h0_site_world_folk_wells (f_h0_site_world_folk_column) (f_w1_folk_column) (f_h0_site_world_folk_ear) (f_w1_folk_ear) (f_h0_site_world_folk_noiseColumn) (f_w1_folk_noiseColumn) (f_h0_site_world_folk_noiseLoud) (f_w1_folk_noiseLoud) (f_h0_site_world_folk_hearsayColumn) (f_w1_folk_hearsayColumn) (f_h0_site_world_folk_hearsayLoud) (f_w1_folk_hearsayLoud) (f_h0_site_world_folk_sounds) (f_w1_folk_sounds) (f_h0_site_world_folk_wet) (f_w1_folk_wet) (f_w1_term) (f_h0_site_world_term) (f_h0_site_world_laws) (f_w1_laws) TT (un24 (fun (u_27_0 : Int32) (u_27_1 : Int32) (u_27_2 : Int64) (u_27_3 : Nat → Int32) (u_27_4 : Nat → Int32) (u_27_5 : Nat → Int32) (u_27_6 : Int32) (u_27_7 : Nat → Int32) (u_27_8 : Nat → Int32) (u_27_9 : Int32) (u_27_10 : Int32) (u_27_11 : Int32) (u_27_12 : Int32) (u_27_13 : Int32) (u_27_14 : Nat → Int32) (u_27_15 : Nat → Int32) (u_27_16 : Nat → Int32) (u_27_17 : Nat → Int32) (u_27_18 : Nat → Int32) (u_27_19 : Nat → Int32) (u_27_20 : Nat → Int32) (u_27_21 : Nat → Int32) (u_27_22 : Nat → Int32) (u_27_23 : Nat → Option Nat) => (vp_in a 2 ∧ (wp_X11_settle 0 (f_h0_refusals) (fun (r_39 : Int32) => (un2 (fun (u_39_0 : Int32) (u_39_1 : Nat → Int32) => (Q r_39 (u_39_0, w0_lawCount, w0_force, w0_rock_dug, f_w0_rock_kind, f_w0_rock_hard, f_w0_rock_water, w0_crew_count, f_w0_crew_cell, f_w0_crew_buckets, w0_folk_listeners, w0_folk_noises, w0_folk_hushed, w0_folk_hearsay, w0_folk_wells, f_w0_folk_column, f_w0_folk_ear, f_w0_folk_noiseColumn, f_w0_folk_noiseLoud, f_w0_folk_hearsayColumn, f_w0_folk_hearsayLoud, f_w0_folk_sounds, f_w0_folk_wet, f_w0_term, f_w0_laws, (upd f_h0_kept a.toNatClampNeg 1), u_39_1, u_27_0, u_27_1, u_27_2, u_27_3, u_27_4, u_27_5, u_27_6, u_27_7, u_27_8, u_27_9, u_27_10, u_27_11, u_27_12, u_27_13, u_27_14, u_27_15, u_27_16, u_27_17, u_27_18, u_27_19, u_27_20, u_27_21, u_27_22, u_27_23)))))))))))))))
set_option maxRecDepth 100000 in
def wp_X11_back (a : Int32) (f_h0_kept : Nat → Int32) (h0_site_world_lawCount : Int32) (h0_site_world_force : Int32) (w0_lawCount : Int32) (w0_force : Int32) (h0_site_world_rock_dug : Int64) (w0_rock_dug : Int64) (f_w0_rock_kind : Nat → Int32) (f_h0_site_world_rock_kind : Nat → Int32) (f_w0_rock_hard : Nat → Int32) (f_h0_site_world_rock_hard : Nat → Int32) (f_w0_rock_water : Nat → Int32) (f_h0_site_world_rock_water : Nat → Int32) (h0_site_world_crew_count : Int32) (w0_crew_count : Int32) (f_w0_crew_cell : Nat → Int32) (f_h0_site_world_crew_cell : Nat → Int32) (f_w0_crew_buckets : Nat → Int32) (f_h0_site_world_crew_buckets : Nat → Int32) (h0_site_world_folk_listeners : Int32) (h0_site_world_folk_noises : Int32) (h0_site_world_folk_hushed : Int32) (h0_site_world_folk_hearsay : Int32) (h0_site_world_folk_wells : Int32) (w0_folk_listeners : Int32) (w0_folk_noises : Int32) (w0_folk_hushed : Int32) (w0_folk_hearsay : Int32) (w0_folk_wells : Int32) (f_w0_folk_column : Nat → Int32) (f_h0_site_world_folk_column : Nat → Int32) (f_w0_folk_ear : Nat → Int32) (f_h0_site_world_folk_ear : Nat → Int32) (f_w0_folk_noiseColumn : Nat → Int32) (f_h0_site_world_folk_noiseColumn : Nat → Int32) (f_w0_folk_noiseLoud : Nat → Int32) (f_h0_site_world_folk_noiseLoud : Nat → Int32) (f_w0_folk_hearsayColumn : Nat → Int32) (f_h0_site_world_folk_hearsayColumn : Nat → Int32) (f_w0_folk_hearsayLoud : Nat → Int32) (f_h0_site_world_folk_hearsayLoud : Nat → Int32) (f_w0_folk_sounds : Nat → Int32) (f_h0_site_world_folk_sounds : Nat → Int32) (f_w0_folk_wet : Nat → Int32) (f_h0_site_world_folk_wet : Nat → Int32) (f_h0_site_world_term : Nat → Int32) (f_w0_term : Nat → Int32) (f_w0_laws : Nat → Option Nat) (f_h0_site_world_laws : Nat → Option Nat) (h0_site_diary_kept : Int32) (f_h0_refusals : Nat → Int32) (w1_lawCount : Int32) (w1_force : Int32) (w1_rock_dug : Int64) (f_w1_rock_kind : Nat → Int32) (f_w1_rock_hard : Nat → Int32) (f_w1_rock_water : Nat → Int32) (w1_crew_count : Int32) (f_w1_crew_cell : Nat → Int32) (f_w1_crew_buckets : Nat → Int32) (w1_folk_listeners : Int32) (w1_folk_noises : Int32) (w1_folk_hushed : Int32) (w1_folk_hearsay : Int32) (w1_folk_wells : Int32) (f_w1_folk_column : Nat → Int32) (f_w1_folk_ear : Nat → Int32) (f_w1_folk_noiseColumn : Nat → Int32) (f_w1_folk_noiseLoud : Nat → Int32) (f_w1_folk_hearsayColumn : Nat → Int32) (f_w1_folk_hearsayLoud : Nat → Int32) (f_w1_folk_sounds : Nat → Int32) (f_w1_folk_wet : Nat → Int32) (f_w1_term : Nat → Int32) (f_w1_laws : Nat → Option Nat) (TT : Nat → Prop) (Q : Int32 → (Int32 × Int32 × Int32 × Int64 × (Nat → Int32) × (Nat → Int32) × (Nat → Int32) × Int32 × (Nat → Int32) × (Nat → Int32) × Int32 × Int32 × Int32 × Int32 × Int32 × (Nat → Int32) × (Nat → Int32) × (Nat → Int32) × (Nat → Int32) × (Nat → Int32) × (Nat → Int32) × (Nat → Int32) × (Nat → Int32) × (Nat → Int32) × (Nat → Option Nat) × Int32 × (Nat → Int32)) → Prop) : Prop := (wp_X11_isWithin a 2 (fun (r_2 : Int32) => (if r_2 = 0 then (wp_X11_settle (-1) (f_h0_refusals) (fun (r_10 : Int32) => (un2 (fun (u_10_0 : Int32) (u_10_1 : Nat → Int32) => (Q r_10 (u_10_0, h0_site_world_lawCount, h0_site_world_force, h0_site_world_rock_dug, f_h0_site_world_rock_kind, f_h0_site_world_rock_hard, f_h0_site_world_rock_water, h0_site_world_crew_count, f_h0_site_world_crew_cell, f_h0_site_world_crew_buckets, h0_site_world_folk_listeners, h0_site_world_folk_noises, h0_site_world_folk_hushed, h0_site_world_folk_hearsay, h0_site_world_folk_wells, f_h0_site_world_folk_column, f_h0_site_world_folk_ear, f_h0_site_world_folk_noiseColumn, f_h0_site_world_folk_noiseLoud, f_h0_site_world_folk_hearsayColumn, f_h0_site_world_folk_hearsayLoud, f_h0_site_world_folk_sounds, f_h0_site_world_folk_wet, f_h0_site_world_term, f_h0_site_world_laws, h0_site_diary_kept, u_10_1)))))) else (vp_in a 2 ∧ (if (f_h0_kept a.toNatClampNeg) = 0 then (wp_X11_settle (-2) (f_h0_refusals) (fun (r_26 : Int32) => (un2 (fun (u_26_0 : Int32) (u_26_1 : Nat → Int32) => (Q r_26 (u_26_0, h0_site_world_lawCount, h0_site_world_force, h0_site_world_rock_dug, f_h0_site_world_rock_kind, f_h0_site_world_rock_hard, f_h0_site_world_rock_water, h0_site_world_crew_count, f_h0_site_world_crew_cell, f_h0_site_world_crew_buckets, h0_site_world_folk_listeners, h0_site_world_folk_noises, h0_site_world_folk_hushed, h0_site_world_folk_hearsay, h0_site_world_folk_wells, f_h0_site_world_folk_column, f_h0_site_world_folk_ear, f_h0_site_world_folk_noiseColumn, f_h0_site_world_folk_noiseLoud, f_h0_site_world_folk_hearsayColumn, f_h0_site_world_folk_hearsayLoud, f_h0_site_world_folk_sounds, f_h0_site_world_folk_wet, f_h0_site_world_term, f_h0_site_world_laws, h0_site_diary_kept, u_26_1)))))) else (vp_in a 2 ∧ (if a = 0 then (wp_X10_copyFrom w0_lawCount w0_force w0_rock_dug (f_w0_rock_kind) (f_h0_site_world_rock_kind) (f_w0_rock_hard) (f_h0_site_world_rock_hard) (f_w0_rock_water) (f_h0_site_world_rock_water) w0_crew_count (f_w0_crew_cell) (f_h0_site_world_crew_cell) (f_w0_crew_buckets) (f_h0_site_world_crew_buckets) w0_folk_listeners w0_folk_noises w0_folk_hushed w0_folk_hearsay w0_folk_wells (f_w0_folk_column) (f_h0_site_world_folk_column) (f_w0_folk_ear) (f_h0_site_world_folk_ear) (f_w0_folk_noiseColumn) (f_h0_site_world_folk_noiseColumn) (f_w0_folk_noiseLoud) (f_h0_site_world_folk_noiseLoud) (f_w0_folk_hearsayColumn) (f_h0_site_world_folk_hearsayColumn) (f_w0_folk_hearsayLoud) (f_h0_site_world_folk_hearsayLoud) (f_w0_folk_sounds) (f_h0_site_world_folk_sounds) (f_w0_folk_wet) (f_h0_site_world_folk_wet) (f_h0_site_world_term) (f_w0_term) (f_w0_laws) (f_h0_site_world_laws) TT (un24 (fun (u_43_0 : Int32) (u_43_1 : Int32) (u_43_2 : Int64) (u_43_3 : Nat → Int32) (u_43_4 : Nat → Int32) (u_43_5 : Nat → Int32) (u_43_6 : Int32) (u_43_7 : Nat → Int32) (u_43_8 : Nat → Int32) (u_43_9 : Int32) (u_43_10 : Int32) (u_43_11 : Int32) (u_43_12 : Int32) (u_43_13 : Int32) (u_43_14 : Nat → Int32) (u_43_15 : Nat → Int32) (u_43_16 : Nat → Int32) (u_43_17 : Nat → Int32) (u_43_18 : Nat → Int32) (u_43_19 : Nat → Int32) (u_43_20 : Nat → Int32) (u_43_21 : Nat → Int32) (u_43_22 : Nat → Int32) (u_43_23 : Nat → Option Nat) => (wp_X2_clear (fun (u_53 : Int32) => (wp_X11_settle 0 (f_h0_refusals) (fun (r_58 : Int32) => (un2 (fun (u_58_0 : Int32) (u_58_1 : Nat → Int32) => (Q r_58 (u_58_0, u_43_0, u_43_1, u_43_2, u_43_3, u_43_4, u_43_5, u_43_6, u_43_7, u_43_8, u_43_9, u_43_10, u_43_11, u_43_12, u_43_13, u_43_14, u_43_15, u_43_16, u_43_17, u_43_18, u_43_19, u_43_20, u_43_21, u_43_22, u_43_23, u_53, u_58_1))))))))))) else (wp_X10_copyFrom w1_lawCount w1_force w1_rock_dug (f_w1_rock_kind) (f_h0_site_world_rock_kind) (f_w1_rock_hard) (f_h0_site_world_rock_hard) (f_w1_rock_water) (f_h0_site_world_rock_water) w1_crew_count (f_w1_crew_cell) (f_h0_site_world_crew_cell) (f_w1_crew_buckets) (f_h0_site_world_crew_buckets) w1_folk_listeners w1_folk_noises w1_folk_hushed w1_folk_hearsay w1_folk_wells (f_w1_folk_column) (f_h0_site_world_folk_column) (f_w1_folk_ear) (f_h0_site_world_folk_ear) (f_w1_folk_noiseColumn) (f_h0_site_world_folk_noiseColumn) (f_w1_folk_noiseLoud) (f_h0_site_world_folk_noiseLoud) (f_w1_folk_hearsayColumn) (f_h0_site_world_folk_hearsayColumn) (f_w1_folk_hearsayLoud) (f_h0_site_world_folk_hearsayLoud) (f_w1_folk_sounds) (f_h0_site_world_folk_sounds) (f_w1_folk_wet) (f_h0_site_world_folk_wet) (f_h0_site_world_term) (f_w1_term) (f_w1_laws) (f_h0_site_world_laws) TT (un24 (fun (u_43_0 : Int32) (u_43_1 : Int32) (u_43_2 : Int64) (u_43_3 : Nat → Int32) (u_43_4 : Nat → Int32) (u_43_5 : Nat → Int32) (u_43_6 : Int32) (u_43_7 : Nat → Int32) (u_43_8 : Nat → Int32) (u_43_9 : Int32) (u_43_10 : Int32) (u_43_11 : Int32) (u_43_12 : Int32) (u_43_13 : Int32) (u_43_14 : Nat → Int32) (u_43_15 : Nat → Int32) (u_43_16 : Nat → Int32) (u_43_17 : Nat → Int32) (u_43_18 : Nat → Int32) (u_43_19 : Nat → Int32) (u_43_20 : Nat → Int32) (u_43_21 : Nat → Int32) (u_43_22 : Nat → Int32) (u_43_23 : Nat → Option Nat) => (wp_X2_clear (fun (u_53 : Int32) => (wp_X11_settle 0 (f_h0_refusals) (fun (r_58 : Int32) => (un2 (fun (u_58_0 : Int32) (u_58_1 : Nat → Int32) => (Q r_58 (u_58_0, u_43_0, u_43_1, u_43_2, u_43_3, u_43_4, u_43_5, u_43_6, u_43_7, u_43_8, u_43_9, u_43_10, u_43_11, u_43_12, u_43_13, u_43_14, u_43_15, u_43_16, u_43_17, u_43_18, u_43_19, u_43_20, u_43_21, u_43_22, u_43_23, u_53, u_58_1))))))))))))))))))
set_option maxRecDepth 100000 in
def wp_X7_copyFrom (p0_world_lawCount : Int32) (p0_world_force : Int32) (p0_world_rock_dug : Int64) (f_p0_world_rock_kind : Nat → Int32) (f_h0_world_rock_kind : Nat → Int32) (f_p0_world_rock_hard : Nat → Int32) (f_h0_world_rock_hard : Nat → Int32) (f_p0_world_rock_water : Nat → Int32) (f_h0_world_rock_water : Nat → Int32) (p0_world_crew_count : Int32) (f_p0_world_crew_cell : Nat → Int32) (f_h0_world_crew_cell : Nat → Int32) (f_p0_world_crew_buckets : Nat → Int32) (f_h0_world_crew_buckets : Nat → Int32) (p0_world_folk_listeners : Int32) (p0_world_folk_noises : Int32) (p0_world_folk_hushed : Int32) (p0_world_folk_hearsay : Int32) (p0_world_folk_wells : Int32) (f_p0_world_folk_column : Nat → Int32) (f_h0_world_folk_column : Nat → Int32) (f_p0_world_folk_ear : Nat → Int32) (f_h0_world_folk_ear : Nat → Int32) (f_p0_world_folk_noiseColumn : Nat → Int32) (f_h0_world_folk_noiseColumn : Nat → Int32) (f_p0_world_folk_noiseLoud : Nat → Int32) (f_h0_world_folk_noiseLoud : Nat → Int32) (f_p0_world_folk_hearsayColumn : Nat → Int32) (f_h0_world_folk_hearsayColumn : Nat → Int32) (f_p0_world_folk_hearsayLoud : Nat → Int32) (f_h0_world_folk_hearsayLoud : Nat → Int32) (f_p0_world_folk_sounds : Nat → Int32) (f_h0_world_folk_sounds : Nat → Int32) (f_p0_world_folk_wet : Nat → Int32) (f_h0_world_folk_wet : Nat → Int32) (f_h0_world_term : Nat → Int32) (f_p0_world_term : Nat → Int32) (f_p0_world_laws : Nat → Option Nat) (f_h0_world_laws : Nat → Option Nat) (p0_diary_kept : Int32) (p0_diary_latest : Int32) (f_p0_diary_deed : Nat → Int32) (f_h0_diary_deed : Nat → Int32) (f_p0_diary_whose : Nat → Int32) (f_h0_diary_whose : Nat → Int32) (f_p0_diary_before : Nat → Int32) (f_h0_diary_before : Nat → Int32) (f_p0_diary_bucketsBefore : Nat → Int32) (f_h0_diary_bucketsBefore : Nat → Int32) (f_p0_diary_dayBefore : Nat → Int32) (f_h0_diary_dayBefore : Nat → Int32) (TT : Nat → Prop) (Q : (Int32 × Int32 × Int64 × (Nat → Int32) × (Nat → Int32) × (Nat → Int32) × Int32 × (Nat → Int32) × (Nat → Int32) × Int32 × Int32 × Int32 × Int32 × Int32 × (Nat → Int32) × (Nat → Int32) × (Nat → Int32) × (Nat → Int32) × (Nat → Int32) × (Nat → Int32) × (Nat → Int32) × (Nat → Int32) × (Nat → Int32) × (Nat → Option Nat) × Int32 × Int32 × (Nat → Int32) × (Nat → Int32) × (Nat → Int32) × (Nat → Int32) × (Nat → Int32)) → Prop) : Prop := (wp_X10_copyFrom p0_world_lawCount p0_world_force p0_world_rock_dug (f_p0_world_rock_kind) (f_h0_world_rock_kind) (f_p0_world_rock_hard) (f_h0_world_rock_hard) (f_p0_world_rock_water) (f_h0_world_rock_water) p0_world_crew_count (f_p0_world_crew_cell) (f_h0_world_crew_cell) (f_p0_world_crew_buckets) (f_h0_world_crew_buckets) p0_world_folk_listeners p0_world_folk_noises p0_world_folk_hushed p0_world_folk_hearsay p0_world_folk_wells (f_p0_world_folk_column) (f_h0_world_folk_column) (f_p0_world_folk_ear) (f_h0_world_folk_ear) (f_p0_world_folk_noiseColumn) (f_h0_world_folk_noiseColumn) (f_p0_world_folk_noiseLoud) (f_h0_world_folk_noiseLoud) (f_p0_world_folk_hearsayColumn) (f_h0_world_folk_hearsayColumn) (f_p0_world_folk_hearsayLoud) (f_h0_world_folk_hearsayLoud) (f_p0_world_folk_sounds) (f_h0_world_folk_sounds) (f_p0_world_folk_wet) (f_h0_world_folk_wet) (f_h0_world_term) (f_p0_world_term) (f_p0_world_laws) (f_h0_world_laws) TT (un24 (fun (u_8_0 : Int32) (u_8_1 : Int32) (u_8_2 : Int64) (u_8_3 : Nat → Int32) (u_8_4 : Nat → Int32) (u_8_5 : Nat → Int32) (u_8_6 : Int32) (u_8_7 : Nat → Int32) (u_8_8 : Nat → Int32) (u_8_9 : Int32) (u_8_10 : Int32) (u_8_11 : Int32) (u_8_12 : Int32) (u_8_13 : Int32) (u_8_14 : Nat → Int32) (u_8_15 : Nat → Int32) (u_8_16 : Nat → Int32) (u_8_17 : Nat → Int32) (u_8_18 : Nat → Int32) (u_8_19 : Nat → Int32) (u_8_20 : Nat → Int32) (u_8_21 : Nat → Int32) (u_8_22 : Nat → Int32) (u_8_23 : Nat → Option Nat) => (wp_X2_copyFrom p0_diary_kept p0_diary_latest (f_p0_diary_deed) (f_h0_diary_deed) (f_p0_diary_whose) (f_h0_diary_whose) (f_p0_diary_before) (f_h0_diary_before) (f_p0_diary_bucketsBefore) (f_h0_diary_bucketsBefore) (f_p0_diary_dayBefore) (f_h0_diary_dayBefore) (un7 (fun (u_19_0 : Int32) (u_19_1 : Int32) (u_19_2 : Nat → Int32) (u_19_3 : Nat → Int32) (u_19_4 : Nat → Int32) (u_19_5 : Nat → Int32) (u_19_6 : Nat → Int32) => (Q (u_8_0, u_8_1, u_8_2, u_8_3, u_8_4, u_8_5, u_8_6, u_8_7, u_8_8, u_8_9, u_8_10, u_8_11, u_8_12, u_8_13, u_8_14, u_8_15, u_8_16, u_8_17, u_8_18, u_8_19, u_8_20, u_8_21, u_8_22, u_8_23, u_19_0, u_19_1, u_19_2, u_19_3, u_19_4, u_19_5, u_19_6))))))))
set_option maxRecDepth 100000 in
def wl_X5_isWord_9 (a : Int32) (b : Int32) (d : Int32) (f_h0_bytes : Nat → Int32) (xe : XE) (Q : Int32 → Prop) (Qb : Int32 → Prop) : Nat → Int32 → Prop
  | 0, _ => False
  | n + 1, x_9 => (if d ≤ x_9 then (Qb x_9) else (wp_J0_charAt_5068e (((8 * a) + x_9) - b) xe (fun (r_24 : Int32) => (vp_in x_9 400 ∧ (if r_24 = (f_h0_bytes x_9.toNatClampNeg) then (wl_X5_isWord_9 a b d f_h0_bytes xe Q Qb n (x_9 + 1)) else (Q 0))))))
set_option maxRecDepth 100000 in
def wp_X5_isWord (a : Int32) (b : Int32) (d : Int32) (f_h0_bytes : Nat → Int32) (xe : XE) (Q : Int32 → Prop) : Prop := (wl_X5_isWord_9 a b d f_h0_bytes xe Q (fun (x_9 : Int32) => (wp_J0_charAt_5068e (((8 * a) + d) - b) xe (fun (r_53 : Int32) => (if r_53 = 32 then (Q 1) else (Q 0))))) 1000000000000 b)
set_option maxRecDepth 100000 in
def wl_X5_wordIn_13 (a : Int32) (b : Int32) (f_h0_bytes : Nat → Int32) (xe : XE) (Q : Int32 → Prop) (Qb : Int32 → Prop) : Nat → Int32 → Prop
  | 0, _ => False
  | n + 1, x_13 => (if 29 ≤ x_13 then (Qb x_13) else (wp_X5_isWord x_13 a b (f_h0_bytes) xe (fun (r_23 : Int32) => (if r_23 = 0 then (wl_X5_wordIn_13 a b f_h0_bytes xe Q Qb n (x_13 + 1)) else (Q x_13)))))
set_option maxRecDepth 100000 in
def wp_X5_wordIn (a : Int32) (b : Int32) (f_h0_bytes : Nat → Int32) (xe : XE) (Q : Int32 → Prop) : Prop := (if (b - a) < 8 then (wl_X5_wordIn_13 a b f_h0_bytes xe Q (fun (x_13 : Int32) => (Q 30)) 1000000000000 0) else (Q 30))
set_option maxRecDepth 100000 in
def wl_X5_splitIntoTokens_9 (h0_length : Int32) (f_h0_bytes : Nat → Int32) (xe : XE) (Qb : Int32 → Int32 → Int32 → (Nat → Int32) → (Nat → Int32) → Prop) : Nat → Int32 → Int32 → Int32 → (Nat → Int32) → (Nat → Int32) → Prop
  | 0, _, _, _, _, _ => False
  | n + 1, x_9_0, x_9_1, x_9_2, x_9_3, x_9_4 => (if 400 ≤ x_9_0 then (Qb x_9_0 x_9_1 x_9_2 x_9_3 x_9_4) else (if h0_length ≤ x_9_1 then (Qb x_9_0 x_9_1 x_9_2 x_9_3 x_9_4) else (vp_in x_9_1 400 ∧ (jn (fun (y_74 : Unit) => (jn (fun (y_116 : Unit) => (if (f_h0_bytes x_9_1.toNatClampNeg) = 32 then (wl_X5_splitIntoTokens_9 h0_length f_h0_bytes xe Qb n (x_9_0 + 1) (x_9_1 + 1) x_9_2 x_9_3 x_9_4) else (wp_X5_addToken (100 + (f_h0_bytes x_9_1.toNatClampNeg)) x_9_1 x_9_2 (x_9_3) (x_9_4) (un3 (fun (u_128_0 : Int32) (u_128_1 : Nat → Int32) (u_128_2 : Nat → Int32) => (wl_X5_splitIntoTokens_9 h0_length f_h0_bytes xe Qb n (x_9_0 + 1) (x_9_1 + 1) u_128_0 u_128_1 u_128_2)))))) (fun k_116 => (if (f_h0_bytes x_9_1.toNatClampNeg) < 48 then (k_116 ()) else (if 57 < (f_h0_bytes x_9_1.toNatClampNeg) then (k_116 ()) else (wp_X5_endOfRow x_9_1 48 57 h0_length (f_h0_bytes) (fun (r_92 : Int32) => (wp_X5_numberIn x_9_1 r_92 (f_h0_bytes) (fun (r_105 : Int32) => (wp_X5_addToken (1000 + r_105) x_9_1 x_9_2 (x_9_3) (x_9_4) (un3 (fun (u_110_0 : Int32) (u_110_1 : Nat → Int32) (u_110_2 : Nat → Int32) => (wl_X5_splitIntoTokens_9 h0_length f_h0_bytes xe Qb n (x_9_0 + 1) r_92 u_110_0 u_110_1 u_110_2))))))))))))) (fun k_74 => (if (f_h0_bytes x_9_1.toNatClampNeg) < 97 then (k_74 ()) else (if 122 < (f_h0_bytes x_9_1.toNatClampNeg) then (k_74 ()) else (wp_X5_endOfRow x_9_1 97 122 h0_length (f_h0_bytes) (fun (r_54 : Int32) => (wp_X5_wordIn x_9_1 r_54 (f_h0_bytes) xe (fun (r_64 : Int32) => (wp_X5_addToken r_64 x_9_1 x_9_2 (x_9_3) (x_9_4) (un3 (fun (u_68_0 : Int32) (u_68_1 : Nat → Int32) (u_68_2 : Nat → Int32) => (wl_X5_splitIntoTokens_9 h0_length f_h0_bytes xe Qb n (x_9_0 + 1) r_54 u_68_0 u_68_1 u_68_2)))))))))))))))
set_option maxRecDepth 100000 in
def wp_X5_splitIntoTokens (h0_length : Int32) (f_h0_bytes : Nat → Int32) (f_h0_tokens : Nat → Int32) (f_h0_places : Nat → Int32) (xe : XE) (Q : (Int32 × (Nat → Int32) × (Nat → Int32)) → Prop) : Prop := (wl_X5_splitIntoTokens_9 h0_length f_h0_bytes xe (fun (x_9_0 : Int32) (x_9_1 : Int32) (x_9_2 : Int32) (x_9_3 : Nat → Int32) (x_9_4 : Nat → Int32) => (wp_X5_addToken 31 h0_length x_9_2 (x_9_3) (x_9_4) (un3 (fun (u_147_0 : Int32) (u_147_1 : Nat → Int32) (u_147_2 : Nat → Int32) => (Q (u_147_0, u_147_1, u_147_2)))))) 1000000000000 0 0 0 f_h0_tokens f_h0_places)
set_option maxRecDepth 100000 in
def wl_X5_read_42 (a : Int32) (h0_length : Int32) (h0_faultPlace : Int32) (u_1_0 : Int32) (u_1_1 : Nat → Int32) (Qb : Int32 → Int32 → Int32 → Int32 → Int32 → (Nat → Int32) → (Nat → Int32) → Int32 → Int32 → Prop) : Nat → Int32 → Int32 → Int32 → Int32 → Int32 → (Nat → Int32) → (Nat → Int32) → Int32 → Int32 → Prop
  | 0, _, _, _, _, _, _, _, _, _ => False
  | n + 1, x_42_0, x_42_1, x_42_2, x_42_3, x_42_4, x_42_5, x_42_6, x_42_7, x_42_8 => (if 12 ≤ x_42_0 then (Qb x_42_0 x_42_1 x_42_2 x_42_3 x_42_4 x_42_5 x_42_6 x_42_7 x_42_8) else (if x_42_2 = 0 then (Qb x_42_0 x_42_1 x_42_2 x_42_3 x_42_4 x_42_5 x_42_6 x_42_7 x_42_8) else (if x_42_1 = 0 then (wp_X5_beginHead x_42_3 (x_42_5) (fun (u_58 : Nat → Int32) => (jn (un6 (fun (y_97_0 : Int32) (y_97_1 : Nat → Int32) (y_97_2 : Int32) (y_97_3 : Int32) (y_97_4 : Int32) (y_97_5 : Nat → Int32) => (if y_97_0 = 0 then (wl_X5_read_42 a h0_length h0_faultPlace u_1_0 u_1_1 Qb n (x_42_0 + 1) x_42_1 y_97_0 x_42_3 y_97_4 y_97_5 y_97_1 y_97_2 y_97_3) else (wp_X5_tokenNow u_1_0 y_97_2 (u_1_1) (fun (r_116 : Int32) => (jn (fun (y_129 : Int32) => (if y_129 = 0 then (wp_X5_take 159 u_1_0 y_97_2 (u_1_1) (fun (r_138 : Int32) => (fun (u_138 : Int32) => (if r_138 = 0 then (wl_X5_read_42 a h0_length h0_faultPlace u_1_0 u_1_1 Qb n (x_42_0 + 1) y_129 0 (x_42_3 + 1) y_97_4 y_97_5 y_97_1 u_138 y_97_3) else (wl_X5_read_42 a h0_length h0_faultPlace u_1_0 u_1_1 Qb n (x_42_0 + 1) y_129 1 (x_42_3 + 1) y_97_4 y_97_5 y_97_1 u_138 y_97_3))))) else (wl_X5_read_42 a h0_length h0_faultPlace u_1_0 u_1_1 Qb n (x_42_0 + 1) y_129 1 (x_42_3 + 1) y_97_4 y_97_5 y_97_1 y_97_2 y_97_3))) (fun k_129 => (if r_116 = 31 then (k_129 1) else (k_129 0))))))))) (fun k_97 => (if a = 0 then (wp_X5_readRule h0_length u_1_0 x_42_7 x_42_8 a h0_faultPlace (u_1_1) x_42_3 x_42_4 (u_58) (x_42_6) (fun (r_79 : Int32) => (un5 (fun (u_79_0 : Int32) (u_79_1 : Int32) (u_79_2 : Int32) (u_79_3 : Nat → Int32) (u_79_4 : Nat → Int32) => (if r_79 = 0 then (k_97 (0, u_79_4, u_79_0, u_79_1, u_79_2, u_79_3)) else (wp_X5_readIf h0_length u_1_0 u_79_0 u_79_1 a h0_faultPlace (u_1_1) x_42_3 u_79_2 (u_79_3) (u_79_4) (fun (r_86 : Int32) => (un5 (fun (u_86_0 : Int32) (u_86_1 : Int32) (u_86_2 : Int32) (u_86_3 : Nat → Int32) (u_86_4 : Nat → Int32) => (if r_86 = 0 then (k_97 (0, u_86_4, u_86_0, u_86_1, u_86_2, u_86_3)) else (k_97 (1, u_86_4, u_86_0, u_86_1, u_86_2, u_86_3)))))))))))) else (wp_X5_readOrder h0_length u_1_0 x_42_7 x_42_8 a h0_faultPlace (u_1_1) x_42_3 x_42_4 (u_58) (x_42_6) (fun (r_69 : Int32) => (un5 (fun (u_69_0 : Int32) (u_69_1 : Int32) (u_69_2 : Int32) (u_69_3 : Nat → Int32) (u_69_4 : Nat → Int32) => (if r_69 = 0 then (k_97 (0, u_69_4, u_69_0, u_69_1, u_69_2, u_69_3)) else (wp_X5_readIf h0_length u_1_0 u_69_0 u_69_1 a h0_faultPlace (u_1_1) x_42_3 u_69_2 (u_69_3) (u_69_4) (fun (r_86 : Int32) => (un5 (fun (u_86_0 : Int32) (u_86_1 : Int32) (u_86_2 : Int32) (u_86_3 : Nat → Int32) (u_86_4 : Nat → Int32) => (if r_86 = 0 then (k_97 (0, u_86_4, u_86_0, u_86_1, u_86_2, u_86_3)) else (k_97 (1, u_86_4, u_86_0, u_86_1, u_86_2, u_86_3))))))))))))))))) else (Qb x_42_0 x_42_1 x_42_2 x_42_3 x_42_4 x_42_5 x_42_6 x_42_7 x_42_8))))
set_option maxRecDepth 100000 in
def wp_X5_read (a : Int32) (h0_length : Int32) (h0_faultPlace : Int32) (f_h0_bytes : Nat → Int32) (f_h0_tokens : Nat → Int32) (f_h0_places : Nat → Int32) (f_h0_draft_heads : Nat → Int32) (f_h0_draft_code : Nat → Int32) (xe : XE) (Q : Int32 → (Int32 × Int32 × Int32 × Int32 × Int32 × Int32 × (Nat → Int32) × (Nat → Int32) × Int32 × Int32 × (Nat → Int32) × (Nat → Int32)) → Prop) : Prop := (wp_X5_splitIntoTokens h0_length (f_h0_bytes) (f_h0_tokens) (f_h0_places) xe (un3 (fun (u_1_0 : Int32) (u_1_1 : Nat → Int32) (u_1_2 : Nat → Int32) => ((a = 0 ∨ a = 1) ∧ (wl_X5_read_42 a h0_length h0_faultPlace u_1_0 u_1_1 (fun (x_42_0 : Int32) (x_42_1 : Int32) (x_42_2 : Int32) (x_42_3 : Int32) (x_42_4 : Int32) (x_42_5 : Nat → Int32) (x_42_6 : Nat → Int32) (x_42_7 : Int32) (x_42_8 : Int32) => (if x_42_1 = 0 then (wp_X5_placeNow h0_length u_1_0 x_42_7 (u_1_2) (fun (r_166 : Int32) => ((x_42_1 = 0 ∨ x_42_1 = 1) ∧ (Q x_42_1 (0, u_1_0, x_42_7, x_42_8, a, r_166, u_1_1, u_1_2, x_42_3, x_42_4, x_42_5, x_42_6))))) else ((x_42_1 = 0 ∨ x_42_1 = 1) ∧ (Q x_42_1 (0, u_1_0, x_42_7, x_42_8, a, (-1), u_1_1, u_1_2, x_42_3, x_42_4, x_42_5, x_42_6))))) 1000000000000 0 0 1 0 0 f_h0_draft_heads f_h0_draft_code 0 0)))))
set_option maxRecDepth 100000 in
def wp_X11_law (cs : Nat → ClassId) (h0_site_world_lawCount : Int32) (h0_reader_length : Int32) (h0_reader_tokenCount : Int32) (h0_reader_now : Int32) (h0_reader_parts : Int32) (h0_reader_asOrders : Int32) (h0_reader_faultPlace : Int32) (f_h0_reader_bytes : Nat → Int32) (f_h0_reader_tokens : Nat → Int32) (f_h0_reader_places : Nat → Int32) (h0_reader_draft_clauses : Int32) (h0_reader_draft_length : Int32) (f_h0_reader_draft_heads : Nat → Int32) (f_h0_reader_draft_code : Nat → Int32) (f_h0_site_world_laws : Nat → Option Nat) (f_h0_refusals : Nat → Int32) (xe : XE) (Q : Int32 → (Int32 × Int32 × Int32 × Int32 × Int32 × Int32 × Int32 × Int32 × (Nat → Int32) × (Nat → Int32) × Int32 × Int32 × (Nat → Int32) × (Nat → Int32) × (Nat → Option Nat) × (Nat → Int32) × va_W) → Prop) : Prop := (if h0_site_world_lawCount < 6 then (wp_X5_read 0 h0_reader_length h0_reader_faultPlace (f_h0_reader_bytes) (f_h0_reader_tokens) (f_h0_reader_places) (f_h0_reader_draft_heads) (f_h0_reader_draft_code) xe (fun (r_37 : Int32) => (un12 (fun (u_37_0 : Int32) (u_37_1 : Int32) (u_37_2 : Int32) (u_37_3 : Int32) (u_37_4 : Int32) (u_37_5 : Int32) (u_37_6 : Nat → Int32) (u_37_7 : Nat → Int32) (u_37_8 : Int32) (u_37_9 : Int32) (u_37_10 : Nat → Int32) (u_37_11 : Nat → Int32) => (if r_37 = 0 then (wp_X11_settle (-6) (f_h0_refusals) (fun (r_46 : Int32) => (un2 (fun (u_46_0 : Int32) (u_46_1 : Nat → Int32) => (Q r_46 (u_46_0, h0_site_world_lawCount, u_37_0, u_37_1, u_37_2, u_37_3, u_37_4, u_37_5, u_37_6, u_37_7, u_37_8, u_37_9, u_37_10, u_37_11, f_h0_site_world_laws, u_46_1, [])))))) else (wp_X8_trimmed u_37_8 u_37_9 60 400 (un3 (fun (u_65_0 : Nat) (u_65_1 : Nat) (u_65_2 : Nat) => (vp_in h0_site_world_lawCount 6 ∧ (wp_X11_settle ((h0_site_world_lawCount + 1) - 1) (f_h0_refusals) (fun (r_86 : Int32) => (un2 (fun (u_86_0 : Int32) (u_86_1 : Nat → Int32) => (Q r_86 (u_86_0, (h0_site_world_lawCount + 1), u_37_0, u_37_1, u_37_2, u_37_3, u_37_4, u_37_5, u_37_6, u_37_7, u_37_8, u_37_9, u_37_10, u_37_11, (va_up f_h0_site_world_laws h0_site_world_lawCount.toNatClampNeg (some u_65_0)), u_86_1, [(u_65_0, Sum.inr (8, [Value.ref u_65_1, Value.ref u_65_2, Value.int u_37_8, Value.int u_37_9])), (u_65_1, Sum.inl (cs 0, (5 * (if 0 < u_37_8 then u_37_8 else 0)).toNatClampNeg, Sum.inl (va_cpy (u_37_10) (fun _ => 0) 0 0 (Int32.ofNat (5 * (if 0 < u_37_8 then u_37_8 else 0)).toNatClampNeg).toNatClampNeg))), (u_65_2, Sum.inl (cs 0, (if 0 < u_37_9 then u_37_9 else 0).toNatClampNeg, Sum.inl (va_cpy (u_37_11) (fun _ => 0) 0 0 (Int32.ofNat (if 0 < u_37_9 then u_37_9 else 0).toNatClampNeg).toNatClampNeg)))]))))))))))))))) else (wp_X11_settle (-5) (f_h0_refusals) (fun (r_28 : Int32) => (un2 (fun (u_28_0 : Int32) (u_28_1 : Nat → Int32) => (Q r_28 (u_28_0, h0_site_world_lawCount, 0, h0_reader_tokenCount, h0_reader_now, h0_reader_parts, h0_reader_asOrders, h0_reader_faultPlace, f_h0_reader_tokens, f_h0_reader_places, h0_reader_draft_clauses, h0_reader_draft_length, f_h0_reader_draft_heads, f_h0_reader_draft_code, f_h0_site_world_laws, u_28_1, [])))))))
set_option maxRecDepth 100000 in
def wp_X11_orders_T (h0_reader_length : Int32) (h0_reader_faultPlace : Int32) (f_h0_reader_bytes : Nat → Int32) (f_h0_reader_tokens : Nat → Int32) (f_h0_reader_places : Nat → Int32) (f_h0_reader_draft_heads : Nat → Int32) (f_h0_reader_draft_code : Nat → Int32) (h0_paper_world : Nat) (h0_paper_done : Int32) (h0_paper_latest : Int32) (h0_paper_world_lawCount : Int32) (h0_paper_world_force : Int32) (h0_site_world_lawCount : Int32) (h0_site_world_force : Int32) (h0_paper_world_rock_dug : Int64) (h0_site_world_rock_dug : Int64) (f_h0_site_world_rock_kind : Nat → Int32) (f_h0_paper_world_rock_kind : Nat → Int32) (f_h0_site_world_rock_hard : Nat → Int32) (f_h0_paper_world_rock_hard : Nat → Int32) (f_h0_site_world_rock_water : Nat → Int32) (f_h0_paper_world_rock_water : Nat → Int32) (h0_paper_world_crew_count : Int32) (h0_site_world_crew_count : Int32) (f_h0_site_world_crew_cell : Nat → Int32) (f_h0_paper_world_crew_cell : Nat → Int32) (f_h0_site_world_crew_buckets : Nat → Int32) (f_h0_paper_world_crew_buckets : Nat → Int32) (h0_paper_world_folk_listeners : Int32) (h0_paper_world_folk_noises : Int32) (h0_paper_world_folk_hushed : Int32) (h0_paper_world_folk_hearsay : Int32) (h0_paper_world_folk_wells : Int32) (h0_site_world_folk_listeners : Int32) (h0_site_world_folk_noises : Int32) (h0_site_world_folk_hushed : Int32) (h0_site_world_folk_hearsay : Int32) (h0_site_world_folk_wells : Int32) (f_h0_site_world_folk_column : Nat → Int32) (f_h0_paper_world_folk_column : Nat → Int32) (f_h0_site_world_folk_ear : Nat → Int32) (f_h0_paper_world_folk_ear : Nat → Int32) (f_h0_site_world_folk_noiseColumn : Nat → Int32) (f_h0_paper_world_folk_noiseColumn : Nat → Int32) (f_h0_site_world_folk_noiseLoud : Nat → Int32) (f_h0_paper_world_folk_noiseLoud : Nat → Int32) (f_h0_site_world_folk_hearsayColumn : Nat → Int32) (f_h0_paper_world_folk_hearsayColumn : Nat → Int32) (f_h0_site_world_folk_hearsayLoud : Nat → Int32) (f_h0_paper_world_folk_hearsayLoud : Nat → Int32) (f_h0_site_world_folk_sounds : Nat → Int32) (f_h0_paper_world_folk_sounds : Nat → Int32) (f_h0_site_world_folk_wet : Nat → Int32) (f_h0_paper_world_folk_wet : Nat → Int32) (f_h0_paper_world_term : Nat → Int32) (f_h0_site_world_term : Nat → Int32) (f_h0_site_world_laws : Nat → Option Nat) (f_h0_paper_world_laws : Nat → Option Nat) (h0_paper_diary_kept : Int32) (h0_paper_diary_latest : Int32) (h0_site_diary_kept : Int32) (h0_site_diary_latest : Int32) (f_h0_site_diary_deed : Nat → Int32) (f_h0_paper_diary_deed : Nat → Int32) (f_h0_site_diary_whose : Nat → Int32) (f_h0_paper_diary_whose : Nat → Int32) (f_h0_site_diary_before : Nat → Int32) (f_h0_paper_diary_before : Nat → Int32) (f_h0_site_diary_bucketsBefore : Nat → Int32) (f_h0_paper_diary_bucketsBefore : Nat → Int32) (f_h0_site_diary_dayBefore : Nat → Int32) (f_h0_paper_diary_dayBefore : Nat → Int32) (h0_asker_world : Value) (h0_asker_law : Value) (h0_asker_cell : Int32) (h0_asker_shaft : Int32) (h0_asker_kind : Int32) (h0_asker_done : Int32) (h0_asker_latest : Int32) (h0_asker_value : Int32) (f_h0_asker_stack : Nat → Int64) (t : Nat) (t_clauses : Int32) (t_length : Int32) (n_t_heads : Nat) (f_t_heads : Nat → Int32) (n_t_code : Nat) (f_t_code : Nat → Int32) (f_h0_refusals : Nat → Int32) (TT : Nat → Prop) (xe : XE) (Q : Int32 → (Int32 × Int32 × Int32 × Int32 × Int32 × Int32 × Int32 × Int32 × (Nat → Int32) × (Nat → Int32) × Int32 × Int32 × (Nat → Int32) × (Nat → Int32) × Int32 × Int32 × Int32 × Int32 × Int32 × Int32 × Int64 × Int64 × (Nat → Int32) × (Nat → Int32) × (Nat → Int32) × (Nat → Int32) × (Nat → Int32) × (Nat → Int32) × Int32 × Int32 × (Nat → Int32) × (Nat → Int32) × (Nat → Int32) × (Nat → Int32) × Int32 × Int32 × Int32 × Int32 × Int32 × Int32 × Int32 × Int32 × Int32 × Int32 × (Nat → Int32) × (Nat → Int32) × (Nat → Int32) × (Nat → Int32) × (Nat → Int32) × (Nat → Int32) × (Nat → Int32) × (Nat → Int32) × (Nat → Int32) × (Nat → Int32) × (Nat → Int32) × (Nat → Int32) × (Nat → Int32) × (Nat → Int32) × (Nat → Int32) × (Nat → Int32) × (Nat → Int32) × (Nat → Int32) × (Nat → Option Nat) × (Nat → Option Nat) × Int32 × Int32 × Int32 × Int32 × (Nat → Int32) × (Nat → Int32) × (Nat → Int32) × (Nat → Int32) × (Nat → Int32) × (Nat → Int32) × (Nat → Int32) × (Nat → Int32) × (Nat → Int32) × (Nat → Int32) × Value × Value × Int32 × Int32 × Int32 × Int32 × Int32 × Int32 × (Nat → Int64) × (Nat → Int32)) → Prop) : Prop := (wp_X5_read 1 h0_reader_length h0_reader_faultPlace (f_h0_reader_bytes) (f_h0_reader_tokens) (f_h0_reader_places) (f_h0_reader_draft_heads) (f_h0_reader_draft_code) xe (fun (r_10 : Int32) => (un12 (fun (u_10_0 : Int32) (u_10_1 : Int32) (u_10_2 : Int32) (u_10_3 : Int32) (u_10_4 : Int32) (u_10_5 : Int32) (u_10_6 : Nat → Int32) (u_10_7 : Nat → Int32) (u_10_8 : Int32) (u_10_9 : Int32) (u_10_10 : Nat → Int32) (u_10_11 : Nat → Int32) => (if r_10 = 0 then (wp_X11_settle (-6) (f_h0_refusals) (fun (r_19 : Int32) => (un2 (fun (u_19_0 : Int32) (u_19_1 : Nat → Int32) => (Q r_19 ((-1), u_19_0, u_10_0, u_10_1, u_10_2, u_10_3, u_10_4, u_10_5, u_10_6, u_10_7, u_10_8, u_10_9, u_10_10, u_10_11, h0_paper_done, h0_paper_latest, h0_paper_world_lawCount, h0_paper_world_force, h0_site_world_lawCount, h0_site_world_force, h0_paper_world_rock_dug, h0_site_world_rock_dug, f_h0_site_world_rock_kind, f_h0_paper_world_rock_kind, f_h0_site_world_rock_hard, f_h0_paper_world_rock_hard, f_h0_site_world_rock_water, f_h0_paper_world_rock_water, h0_paper_world_crew_count, h0_site_world_crew_count, f_h0_site_world_crew_cell, f_h0_paper_world_crew_cell, f_h0_site_world_crew_buckets, f_h0_paper_world_crew_buckets, h0_paper_world_folk_listeners, h0_paper_world_folk_noises, h0_paper_world_folk_hushed, h0_paper_world_folk_hearsay, h0_paper_world_folk_wells, h0_site_world_folk_listeners, h0_site_world_folk_noises, h0_site_world_folk_hushed, h0_site_world_folk_hearsay, h0_site_world_folk_wells, f_h0_site_world_folk_column, f_h0_paper_world_folk_column, f_h0_site_world_folk_ear, f_h0_paper_world_folk_ear, f_h0_site_world_folk_noiseColumn, f_h0_paper_world_folk_noiseColumn, f_h0_site_world_folk_noiseLoud, f_h0_paper_world_folk_noiseLoud, f_h0_site_world_folk_hearsayColumn, f_h0_paper_world_folk_hearsayColumn, f_h0_site_world_folk_hearsayLoud, f_h0_paper_world_folk_hearsayLoud, f_h0_site_world_folk_sounds, f_h0_paper_world_folk_sounds, f_h0_site_world_folk_wet, f_h0_paper_world_folk_wet, f_h0_paper_world_term, f_h0_site_world_term, f_h0_site_world_laws, f_h0_paper_world_laws, h0_paper_diary_kept, h0_paper_diary_latest, h0_site_diary_kept, h0_site_diary_latest, f_h0_site_diary_deed, f_h0_paper_diary_deed, f_h0_site_diary_whose, f_h0_paper_diary_whose, f_h0_site_diary_before, f_h0_paper_diary_before, f_h0_site_diary_bucketsBefore, f_h0_paper_diary_bucketsBefore, f_h0_site_diary_dayBefore, f_h0_paper_diary_dayBefore, h0_asker_world, h0_asker_law, h0_asker_cell, h0_asker_shaft, h0_asker_kind, h0_asker_done, h0_asker_latest, h0_asker_value, f_h0_asker_stack, u_19_1)))))) else (wp_X7_copyFrom h0_site_world_lawCount h0_site_world_force h0_site_world_rock_dug (f_h0_site_world_rock_kind) (f_h0_paper_world_rock_kind) (f_h0_site_world_rock_hard) (f_h0_paper_world_rock_hard) (f_h0_site_world_rock_water) (f_h0_paper_world_rock_water) h0_site_world_crew_count (f_h0_site_world_crew_cell) (f_h0_paper_world_crew_cell) (f_h0_site_world_crew_buckets) (f_h0_paper_world_crew_buckets) h0_site_world_folk_listeners h0_site_world_folk_noises h0_site_world_folk_hushed h0_site_world_folk_hearsay h0_site_world_folk_wells (f_h0_site_world_folk_column) (f_h0_paper_world_folk_column) (f_h0_site_world_folk_ear) (f_h0_paper_world_folk_ear) (f_h0_site_world_folk_noiseColumn) (f_h0_paper_world_folk_noiseColumn) (f_h0_site_world_folk_noiseLoud) (f_h0_paper_world_folk_noiseLoud) (f_h0_site_world_folk_hearsayColumn) (f_h0_paper_world_folk_hearsayColumn) (f_h0_site_world_folk_hearsayLoud) (f_h0_paper_world_folk_hearsayLoud) (f_h0_site_world_folk_sounds) (f_h0_paper_world_folk_sounds) (f_h0_site_world_folk_wet) (f_h0_paper_world_folk_wet) (f_h0_paper_world_term) (f_h0_site_world_term) (f_h0_site_world_laws) (f_h0_paper_world_laws) h0_site_diary_kept h0_site_diary_latest (f_h0_site_diary_deed) (f_h0_paper_diary_deed) (f_h0_site_diary_whose) (f_h0_paper_diary_whose) (f_h0_site_diary_before) (f_h0_paper_diary_before) (f_h0_site_diary_bucketsBefore) (f_h0_paper_diary_bucketsBefore) (f_h0_site_diary_dayBefore) (f_h0_paper_diary_dayBefore) (fun v => TT v ∨ v = t) (un31 (fun (u_31_0 : Int32) (u_31_1 : Int32) (u_31_2 : Int64) (u_31_3 : Nat → Int32) (u_31_4 : Nat → Int32) (u_31_5 : Nat → Int32) (u_31_6 : Int32) (u_31_7 : Nat → Int32) (u_31_8 : Nat → Int32) (u_31_9 : Int32) (u_31_10 : Int32) (u_31_11 : Int32) (u_31_12 : Int32) (u_31_13 : Int32) (u_31_14 : Nat → Int32) (u_31_15 : Nat → Int32) (u_31_16 : Nat → Int32) (u_31_17 : Nat → Int32) (u_31_18 : Nat → Int32) (u_31_19 : Nat → Int32) (u_31_20 : Nat → Int32) (u_31_21 : Nat → Int32) (u_31_22 : Nat → Int32) (u_31_23 : Nat → Option Nat) (u_31_24 : Int32) (u_31_25 : Int32) (u_31_26 : Nat → Int32) (u_31_27 : Nat → Int32) (u_31_28 : Nat → Int32) (u_31_29 : Nat → Int32) (u_31_30 : Nat → Int32) => (wp_X7_runOrders_T h0_paper_world u_10_8 u_10_9 60 (u_10_10) h0_asker_world h0_asker_law h0_asker_cell h0_asker_shaft h0_asker_kind h0_asker_done h0_asker_latest h0_asker_value 400 (u_10_11) (f_h0_asker_stack) u_31_0 u_31_1 u_31_9 u_31_10 u_31_11 (u_31_14) u_31_2 (u_31_4) (u_31_5) (u_31_22) u_31_6 (u_31_7) (u_31_8) (u_31_3) (u_31_23) t t_clauses t_length n_t_heads (f_t_heads) n_t_code (f_t_code) u_31_24 u_31_25 (u_31_26) (u_31_27) (u_31_28) (u_31_29) (u_31_30) (u_31_16) (u_31_17) (fun (r_45 : Int32) => (un25 (fun (u_45_0 : Int32) (u_45_1 : Int32) (u_45_2 : Value) (u_45_3 : Value) (u_45_4 : Int32) (u_45_5 : Int32) (u_45_6 : Int32) (u_45_7 : Int32) (u_45_8 : Int32) (u_45_9 : Int32) (u_45_10 : Nat → Int64) (u_45_11 : Int32) (u_45_12 : Nat → Int32) (u_45_13 : Int64) (u_45_14 : Nat → Int32) (u_45_15 : Nat → Int32) (u_45_16 : Nat → Int32) (u_45_17 : Nat → Int32) (u_45_18 : Int32) (u_45_19 : Int32) (u_45_20 : Nat → Int32) (u_45_21 : Nat → Int32) (u_45_22 : Nat → Int32) (u_45_23 : Nat → Int32) (u_45_24 : Nat → Int32) => (if r_45 = (-1) then (wp_X7_copyFrom u_31_0 u_31_1 u_45_13 (u_31_3) (f_h0_site_world_rock_kind) (u_31_4) (f_h0_site_world_rock_hard) (u_45_14) (f_h0_site_world_rock_water) u_31_6 (u_45_16) (f_h0_site_world_crew_cell) (u_45_17) (f_h0_site_world_crew_buckets) u_31_9 u_31_10 u_45_11 u_31_12 u_31_13 (u_45_12) (f_h0_site_world_folk_column) (u_31_15) (f_h0_site_world_folk_ear) (u_31_16) (f_h0_site_world_folk_noiseColumn) (u_31_17) (f_h0_site_world_folk_noiseLoud) (u_31_18) (f_h0_site_world_folk_hearsayColumn) (u_31_19) (f_h0_site_world_folk_hearsayLoud) (u_31_20) (f_h0_site_world_folk_sounds) (u_31_21) (f_h0_site_world_folk_wet) (f_h0_site_world_term) (u_45_15) (u_31_23) (f_h0_site_world_laws) u_45_18 u_45_19 (u_45_20) (f_h0_site_diary_deed) (u_45_21) (f_h0_site_diary_whose) (u_45_22) (f_h0_site_diary_before) (u_45_23) (f_h0_site_diary_bucketsBefore) (u_45_24) (f_h0_site_diary_dayBefore) (fun v => TT v ∨ v = t) (un31 (fun (u_74_0 : Int32) (u_74_1 : Int32) (u_74_2 : Int64) (u_74_3 : Nat → Int32) (u_74_4 : Nat → Int32) (u_74_5 : Nat → Int32) (u_74_6 : Int32) (u_74_7 : Nat → Int32) (u_74_8 : Nat → Int32) (u_74_9 : Int32) (u_74_10 : Int32) (u_74_11 : Int32) (u_74_12 : Int32) (u_74_13 : Int32) (u_74_14 : Nat → Int32) (u_74_15 : Nat → Int32) (u_74_16 : Nat → Int32) (u_74_17 : Nat → Int32) (u_74_18 : Nat → Int32) (u_74_19 : Nat → Int32) (u_74_20 : Nat → Int32) (u_74_21 : Nat → Int32) (u_74_22 : Nat → Int32) (u_74_23 : Nat → Option Nat) (u_74_24 : Int32) (u_74_25 : Int32) (u_74_26 : Nat → Int32) (u_74_27 : Nat → Int32) (u_74_28 : Nat → Int32) (u_74_29 : Nat → Int32) (u_74_30 : Nat → Int32) => (wp_X11_settle u_45_0 (f_h0_refusals) (fun (r_85 : Int32) => (un2 (fun (u_85_0 : Int32) (u_85_1 : Nat → Int32) => (Q r_85 ((-1), u_85_0, u_10_0, u_10_1, u_10_2, u_10_3, u_10_4, u_10_5, u_10_6, u_10_7, u_10_8, u_10_9, u_10_10, u_10_11, u_45_0, u_45_1, u_31_0, u_31_1, u_74_0, u_74_1, u_45_13, u_74_2, u_74_3, u_31_3, u_74_4, u_31_4, u_74_5, u_45_14, u_31_6, u_74_6, u_74_7, u_45_16, u_74_8, u_45_17, u_31_9, u_31_10, u_45_11, u_31_12, u_31_13, u_74_9, u_74_10, u_74_11, u_74_12, u_74_13, u_74_14, u_45_12, u_74_15, u_31_15, u_74_16, u_31_16, u_74_17, u_31_17, u_74_18, u_31_18, u_74_19, u_31_19, u_74_20, u_31_20, u_74_21, u_31_21, u_45_15, u_74_22, u_74_23, u_31_23, u_45_18, u_45_19, u_74_24, u_74_25, u_74_26, u_45_20, u_74_27, u_45_21, u_74_28, u_45_22, u_74_29, u_45_23, u_74_30, u_45_24, u_45_2, u_45_3, u_45_4, u_45_5, u_45_6, u_45_7, u_45_8, u_45_9, u_45_10, u_85_1))))))))) else (wp_X11_settle (-3) (f_h0_refusals) (fun (r_62 : Int32) => (un2 (fun (u_62_0 : Int32) (u_62_1 : Nat → Int32) => (Q r_62 (r_45, u_62_0, u_10_0, u_10_1, u_10_2, u_10_3, u_10_4, u_10_5, u_10_6, u_10_7, u_10_8, u_10_9, u_10_10, u_10_11, u_45_0, u_45_1, u_31_0, u_31_1, h0_site_world_lawCount, h0_site_world_force, u_45_13, h0_site_world_rock_dug, f_h0_site_world_rock_kind, u_31_3, f_h0_site_world_rock_hard, u_31_4, f_h0_site_world_rock_water, u_45_14, u_31_6, h0_site_world_crew_count, f_h0_site_world_crew_cell, u_45_16, f_h0_site_world_crew_buckets, u_45_17, u_31_9, u_31_10, u_45_11, u_31_12, u_31_13, h0_site_world_folk_listeners, h0_site_world_folk_noises, h0_site_world_folk_hushed, h0_site_world_folk_hearsay, h0_site_world_folk_wells, f_h0_site_world_folk_column, u_45_12, f_h0_site_world_folk_ear, u_31_15, f_h0_site_world_folk_noiseColumn, u_31_16, f_h0_site_world_folk_noiseLoud, u_31_17, f_h0_site_world_folk_hearsayColumn, u_31_18, f_h0_site_world_folk_hearsayLoud, u_31_19, f_h0_site_world_folk_sounds, u_31_20, f_h0_site_world_folk_wet, u_31_21, u_45_15, f_h0_site_world_term, f_h0_site_world_laws, u_31_23, u_45_18, u_45_19, h0_site_diary_kept, h0_site_diary_latest, f_h0_site_diary_deed, u_45_20, f_h0_site_diary_whose, u_45_21, f_h0_site_diary_before, u_45_22, f_h0_site_diary_bucketsBefore, u_45_23, f_h0_site_diary_dayBefore, u_45_24, u_45_2, u_45_3, u_45_4, u_45_5, u_45_6, u_45_7, u_45_8, u_45_9, u_45_10, u_62_1)))))))))))))))))))
set_option maxRecDepth 100000 in
def wp_X11_orders_N (h0_reader_length : Int32) (h0_reader_faultPlace : Int32) (f_h0_reader_bytes : Nat → Int32) (f_h0_reader_tokens : Nat → Int32) (f_h0_reader_places : Nat → Int32) (f_h0_reader_draft_heads : Nat → Int32) (f_h0_reader_draft_code : Nat → Int32) (h0_paper_world : Nat) (h0_paper_done : Int32) (h0_paper_latest : Int32) (h0_paper_world_lawCount : Int32) (h0_paper_world_force : Int32) (h0_site_world_lawCount : Int32) (h0_site_world_force : Int32) (h0_paper_world_rock_dug : Int64) (h0_site_world_rock_dug : Int64) (f_h0_site_world_rock_kind : Nat → Int32) (f_h0_paper_world_rock_kind : Nat → Int32) (f_h0_site_world_rock_hard : Nat → Int32) (f_h0_paper_world_rock_hard : Nat → Int32) (f_h0_site_world_rock_water : Nat → Int32) (f_h0_paper_world_rock_water : Nat → Int32) (h0_paper_world_crew_count : Int32) (h0_site_world_crew_count : Int32) (f_h0_site_world_crew_cell : Nat → Int32) (f_h0_paper_world_crew_cell : Nat → Int32) (f_h0_site_world_crew_buckets : Nat → Int32) (f_h0_paper_world_crew_buckets : Nat → Int32) (h0_paper_world_folk_listeners : Int32) (h0_paper_world_folk_noises : Int32) (h0_paper_world_folk_hushed : Int32) (h0_paper_world_folk_hearsay : Int32) (h0_paper_world_folk_wells : Int32) (h0_site_world_folk_listeners : Int32) (h0_site_world_folk_noises : Int32) (h0_site_world_folk_hushed : Int32) (h0_site_world_folk_hearsay : Int32) (h0_site_world_folk_wells : Int32) (f_h0_site_world_folk_column : Nat → Int32) (f_h0_paper_world_folk_column : Nat → Int32) (f_h0_site_world_folk_ear : Nat → Int32) (f_h0_paper_world_folk_ear : Nat → Int32) (f_h0_site_world_folk_noiseColumn : Nat → Int32) (f_h0_paper_world_folk_noiseColumn : Nat → Int32) (f_h0_site_world_folk_noiseLoud : Nat → Int32) (f_h0_paper_world_folk_noiseLoud : Nat → Int32) (f_h0_site_world_folk_hearsayColumn : Nat → Int32) (f_h0_paper_world_folk_hearsayColumn : Nat → Int32) (f_h0_site_world_folk_hearsayLoud : Nat → Int32) (f_h0_paper_world_folk_hearsayLoud : Nat → Int32) (f_h0_site_world_folk_sounds : Nat → Int32) (f_h0_paper_world_folk_sounds : Nat → Int32) (f_h0_site_world_folk_wet : Nat → Int32) (f_h0_paper_world_folk_wet : Nat → Int32) (f_h0_paper_world_term : Nat → Int32) (f_h0_site_world_term : Nat → Int32) (f_h0_site_world_laws : Nat → Option Nat) (f_h0_paper_world_laws : Nat → Option Nat) (h0_paper_diary_kept : Int32) (h0_paper_diary_latest : Int32) (h0_site_diary_kept : Int32) (h0_site_diary_latest : Int32) (f_h0_site_diary_deed : Nat → Int32) (f_h0_paper_diary_deed : Nat → Int32) (f_h0_site_diary_whose : Nat → Int32) (f_h0_paper_diary_whose : Nat → Int32) (f_h0_site_diary_before : Nat → Int32) (f_h0_paper_diary_before : Nat → Int32) (f_h0_site_diary_bucketsBefore : Nat → Int32) (f_h0_paper_diary_bucketsBefore : Nat → Int32) (f_h0_site_diary_dayBefore : Nat → Int32) (f_h0_paper_diary_dayBefore : Nat → Int32) (h0_asker_world : Value) (h0_asker_law : Value) (h0_asker_cell : Int32) (h0_asker_shaft : Int32) (h0_asker_kind : Int32) (h0_asker_done : Int32) (h0_asker_latest : Int32) (h0_asker_value : Int32) (f_h0_asker_stack : Nat → Int64) (f_h0_refusals : Nat → Int32) (TT : Nat → Prop) (xe : XE) (Q : Int32 → (Int32 × Int32 × Int32 × Int32 × Int32 × Int32 × Int32 × Int32 × (Nat → Int32) × (Nat → Int32) × Int32 × Int32 × (Nat → Int32) × (Nat → Int32) × Int32 × Int32 × Int32 × Int32 × Int32 × Int32 × Int64 × Int64 × (Nat → Int32) × (Nat → Int32) × (Nat → Int32) × (Nat → Int32) × (Nat → Int32) × (Nat → Int32) × Int32 × Int32 × (Nat → Int32) × (Nat → Int32) × (Nat → Int32) × (Nat → Int32) × Int32 × Int32 × Int32 × Int32 × Int32 × Int32 × Int32 × Int32 × Int32 × Int32 × (Nat → Int32) × (Nat → Int32) × (Nat → Int32) × (Nat → Int32) × (Nat → Int32) × (Nat → Int32) × (Nat → Int32) × (Nat → Int32) × (Nat → Int32) × (Nat → Int32) × (Nat → Int32) × (Nat → Int32) × (Nat → Int32) × (Nat → Int32) × (Nat → Int32) × (Nat → Int32) × (Nat → Int32) × (Nat → Int32) × (Nat → Option Nat) × (Nat → Option Nat) × Int32 × Int32 × Int32 × Int32 × (Nat → Int32) × (Nat → Int32) × (Nat → Int32) × (Nat → Int32) × (Nat → Int32) × (Nat → Int32) × (Nat → Int32) × (Nat → Int32) × (Nat → Int32) × (Nat → Int32) × Value × Value × Int32 × Int32 × Int32 × Int32 × Int32 × Int32 × (Nat → Int64) × (Nat → Int32)) → Prop) : Prop := (wp_X5_read 1 h0_reader_length h0_reader_faultPlace (f_h0_reader_bytes) (f_h0_reader_tokens) (f_h0_reader_places) (f_h0_reader_draft_heads) (f_h0_reader_draft_code) xe (fun (r_10 : Int32) => (un12 (fun (u_10_0 : Int32) (u_10_1 : Int32) (u_10_2 : Int32) (u_10_3 : Int32) (u_10_4 : Int32) (u_10_5 : Int32) (u_10_6 : Nat → Int32) (u_10_7 : Nat → Int32) (u_10_8 : Int32) (u_10_9 : Int32) (u_10_10 : Nat → Int32) (u_10_11 : Nat → Int32) => (if r_10 = 0 then (wp_X11_settle (-6) (f_h0_refusals) (fun (r_19 : Int32) => (un2 (fun (u_19_0 : Int32) (u_19_1 : Nat → Int32) => (Q r_19 ((-1), u_19_0, u_10_0, u_10_1, u_10_2, u_10_3, u_10_4, u_10_5, u_10_6, u_10_7, u_10_8, u_10_9, u_10_10, u_10_11, h0_paper_done, h0_paper_latest, h0_paper_world_lawCount, h0_paper_world_force, h0_site_world_lawCount, h0_site_world_force, h0_paper_world_rock_dug, h0_site_world_rock_dug, f_h0_site_world_rock_kind, f_h0_paper_world_rock_kind, f_h0_site_world_rock_hard, f_h0_paper_world_rock_hard, f_h0_site_world_rock_water, f_h0_paper_world_rock_water, h0_paper_world_crew_count, h0_site_world_crew_count, f_h0_site_world_crew_cell, f_h0_paper_world_crew_cell, f_h0_site_world_crew_buckets, f_h0_paper_world_crew_buckets, h0_paper_world_folk_listeners, h0_paper_world_folk_noises, h0_paper_world_folk_hushed, h0_paper_world_folk_hearsay, h0_paper_world_folk_wells, h0_site_world_folk_listeners, h0_site_world_folk_noises, h0_site_world_folk_hushed, h0_site_world_folk_hearsay, h0_site_world_folk_wells, f_h0_site_world_folk_column, f_h0_paper_world_folk_column, f_h0_site_world_folk_ear, f_h0_paper_world_folk_ear, f_h0_site_world_folk_noiseColumn, f_h0_paper_world_folk_noiseColumn, f_h0_site_world_folk_noiseLoud, f_h0_paper_world_folk_noiseLoud, f_h0_site_world_folk_hearsayColumn, f_h0_paper_world_folk_hearsayColumn, f_h0_site_world_folk_hearsayLoud, f_h0_paper_world_folk_hearsayLoud, f_h0_site_world_folk_sounds, f_h0_paper_world_folk_sounds, f_h0_site_world_folk_wet, f_h0_paper_world_folk_wet, f_h0_paper_world_term, f_h0_site_world_term, f_h0_site_world_laws, f_h0_paper_world_laws, h0_paper_diary_kept, h0_paper_diary_latest, h0_site_diary_kept, h0_site_diary_latest, f_h0_site_diary_deed, f_h0_paper_diary_deed, f_h0_site_diary_whose, f_h0_paper_diary_whose, f_h0_site_diary_before, f_h0_paper_diary_before, f_h0_site_diary_bucketsBefore, f_h0_paper_diary_bucketsBefore, f_h0_site_diary_dayBefore, f_h0_paper_diary_dayBefore, h0_asker_world, h0_asker_law, h0_asker_cell, h0_asker_shaft, h0_asker_kind, h0_asker_done, h0_asker_latest, h0_asker_value, f_h0_asker_stack, u_19_1)))))) else (wp_X7_copyFrom h0_site_world_lawCount h0_site_world_force h0_site_world_rock_dug (f_h0_site_world_rock_kind) (f_h0_paper_world_rock_kind) (f_h0_site_world_rock_hard) (f_h0_paper_world_rock_hard) (f_h0_site_world_rock_water) (f_h0_paper_world_rock_water) h0_site_world_crew_count (f_h0_site_world_crew_cell) (f_h0_paper_world_crew_cell) (f_h0_site_world_crew_buckets) (f_h0_paper_world_crew_buckets) h0_site_world_folk_listeners h0_site_world_folk_noises h0_site_world_folk_hushed h0_site_world_folk_hearsay h0_site_world_folk_wells (f_h0_site_world_folk_column) (f_h0_paper_world_folk_column) (f_h0_site_world_folk_ear) (f_h0_paper_world_folk_ear) (f_h0_site_world_folk_noiseColumn) (f_h0_paper_world_folk_noiseColumn) (f_h0_site_world_folk_noiseLoud) (f_h0_paper_world_folk_noiseLoud) (f_h0_site_world_folk_hearsayColumn) (f_h0_paper_world_folk_hearsayColumn) (f_h0_site_world_folk_hearsayLoud) (f_h0_paper_world_folk_hearsayLoud) (f_h0_site_world_folk_sounds) (f_h0_paper_world_folk_sounds) (f_h0_site_world_folk_wet) (f_h0_paper_world_folk_wet) (f_h0_paper_world_term) (f_h0_site_world_term) (f_h0_site_world_laws) (f_h0_paper_world_laws) h0_site_diary_kept h0_site_diary_latest (f_h0_site_diary_deed) (f_h0_paper_diary_deed) (f_h0_site_diary_whose) (f_h0_paper_diary_whose) (f_h0_site_diary_before) (f_h0_paper_diary_before) (f_h0_site_diary_bucketsBefore) (f_h0_paper_diary_bucketsBefore) (f_h0_site_diary_dayBefore) (f_h0_paper_diary_dayBefore) TT (un31 (fun (u_31_0 : Int32) (u_31_1 : Int32) (u_31_2 : Int64) (u_31_3 : Nat → Int32) (u_31_4 : Nat → Int32) (u_31_5 : Nat → Int32) (u_31_6 : Int32) (u_31_7 : Nat → Int32) (u_31_8 : Nat → Int32) (u_31_9 : Int32) (u_31_10 : Int32) (u_31_11 : Int32) (u_31_12 : Int32) (u_31_13 : Int32) (u_31_14 : Nat → Int32) (u_31_15 : Nat → Int32) (u_31_16 : Nat → Int32) (u_31_17 : Nat → Int32) (u_31_18 : Nat → Int32) (u_31_19 : Nat → Int32) (u_31_20 : Nat → Int32) (u_31_21 : Nat → Int32) (u_31_22 : Nat → Int32) (u_31_23 : Nat → Option Nat) (u_31_24 : Int32) (u_31_25 : Int32) (u_31_26 : Nat → Int32) (u_31_27 : Nat → Int32) (u_31_28 : Nat → Int32) (u_31_29 : Nat → Int32) (u_31_30 : Nat → Int32) => (wp_X7_runOrders_N h0_paper_world u_10_8 u_10_9 60 (u_10_10) h0_asker_world h0_asker_law h0_asker_cell h0_asker_shaft h0_asker_kind h0_asker_done h0_asker_latest h0_asker_value 400 (u_10_11) (f_h0_asker_stack) u_31_0 u_31_1 u_31_9 u_31_10 u_31_11 (u_31_14) u_31_2 (u_31_4) (u_31_5) (u_31_22) u_31_6 (u_31_7) (u_31_8) (u_31_3) (u_31_23) u_31_24 u_31_25 (u_31_26) (u_31_27) (u_31_28) (u_31_29) (u_31_30) (u_31_16) (u_31_17) (fun (r_45 : Int32) => (un25 (fun (u_45_0 : Int32) (u_45_1 : Int32) (u_45_2 : Value) (u_45_3 : Value) (u_45_4 : Int32) (u_45_5 : Int32) (u_45_6 : Int32) (u_45_7 : Int32) (u_45_8 : Int32) (u_45_9 : Int32) (u_45_10 : Nat → Int64) (u_45_11 : Int32) (u_45_12 : Nat → Int32) (u_45_13 : Int64) (u_45_14 : Nat → Int32) (u_45_15 : Nat → Int32) (u_45_16 : Nat → Int32) (u_45_17 : Nat → Int32) (u_45_18 : Int32) (u_45_19 : Int32) (u_45_20 : Nat → Int32) (u_45_21 : Nat → Int32) (u_45_22 : Nat → Int32) (u_45_23 : Nat → Int32) (u_45_24 : Nat → Int32) => (if r_45 = (-1) then (wp_X7_copyFrom u_31_0 u_31_1 u_45_13 (u_31_3) (f_h0_site_world_rock_kind) (u_31_4) (f_h0_site_world_rock_hard) (u_45_14) (f_h0_site_world_rock_water) u_31_6 (u_45_16) (f_h0_site_world_crew_cell) (u_45_17) (f_h0_site_world_crew_buckets) u_31_9 u_31_10 u_45_11 u_31_12 u_31_13 (u_45_12) (f_h0_site_world_folk_column) (u_31_15) (f_h0_site_world_folk_ear) (u_31_16) (f_h0_site_world_folk_noiseColumn) (u_31_17) (f_h0_site_world_folk_noiseLoud) (u_31_18) (f_h0_site_world_folk_hearsayColumn) (u_31_19) (f_h0_site_world_folk_hearsayLoud) (u_31_20) (f_h0_site_world_folk_sounds) (u_31_21) (f_h0_site_world_folk_wet) (f_h0_site_world_term) (u_45_15) (u_31_23) (f_h0_site_world_laws) u_45_18 u_45_19 (u_45_20) (f_h0_site_diary_deed) (u_45_21) (f_h0_site_diary_whose) (u_45_22) (f_h0_site_diary_before) (u_45_23) (f_h0_site_diary_bucketsBefore) (u_45_24) (f_h0_site_diary_dayBefore) TT (un31 (fun (u_74_0 : Int32) (u_74_1 : Int32) (u_74_2 : Int64) (u_74_3 : Nat → Int32) (u_74_4 : Nat → Int32) (u_74_5 : Nat → Int32) (u_74_6 : Int32) (u_74_7 : Nat → Int32) (u_74_8 : Nat → Int32) (u_74_9 : Int32) (u_74_10 : Int32) (u_74_11 : Int32) (u_74_12 : Int32) (u_74_13 : Int32) (u_74_14 : Nat → Int32) (u_74_15 : Nat → Int32) (u_74_16 : Nat → Int32) (u_74_17 : Nat → Int32) (u_74_18 : Nat → Int32) (u_74_19 : Nat → Int32) (u_74_20 : Nat → Int32) (u_74_21 : Nat → Int32) (u_74_22 : Nat → Int32) (u_74_23 : Nat → Option Nat) (u_74_24 : Int32) (u_74_25 : Int32) (u_74_26 : Nat → Int32) (u_74_27 : Nat → Int32) (u_74_28 : Nat → Int32) (u_74_29 : Nat → Int32) (u_74_30 : Nat → Int32) => (wp_X11_settle u_45_0 (f_h0_refusals) (fun (r_85 : Int32) => (un2 (fun (u_85_0 : Int32) (u_85_1 : Nat → Int32) => (Q r_85 ((-1), u_85_0, u_10_0, u_10_1, u_10_2, u_10_3, u_10_4, u_10_5, u_10_6, u_10_7, u_10_8, u_10_9, u_10_10, u_10_11, u_45_0, u_45_1, u_31_0, u_31_1, u_74_0, u_74_1, u_45_13, u_74_2, u_74_3, u_31_3, u_74_4, u_31_4, u_74_5, u_45_14, u_31_6, u_74_6, u_74_7, u_45_16, u_74_8, u_45_17, u_31_9, u_31_10, u_45_11, u_31_12, u_31_13, u_74_9, u_74_10, u_74_11, u_74_12, u_74_13, u_74_14, u_45_12, u_74_15, u_31_15, u_74_16, u_31_16, u_74_17, u_31_17, u_74_18, u_31_18, u_74_19, u_31_19, u_74_20, u_31_20, u_74_21, u_31_21, u_45_15, u_74_22, u_74_23, u_31_23, u_45_18, u_45_19, u_74_24, u_74_25, u_74_26, u_45_20, u_74_27, u_45_21, u_74_28, u_45_22, u_74_29, u_45_23, u_74_30, u_45_24, u_45_2, u_45_3, u_45_4, u_45_5, u_45_6, u_45_7, u_45_8, u_45_9, u_45_10, u_85_1))))))))) else (wp_X11_settle (-3) (f_h0_refusals) (fun (r_62 : Int32) => (un2 (fun (u_62_0 : Int32) (u_62_1 : Nat → Int32) => (Q r_62 (r_45, u_62_0, u_10_0, u_10_1, u_10_2, u_10_3, u_10_4, u_10_5, u_10_6, u_10_7, u_10_8, u_10_9, u_10_10, u_10_11, u_45_0, u_45_1, u_31_0, u_31_1, h0_site_world_lawCount, h0_site_world_force, u_45_13, h0_site_world_rock_dug, f_h0_site_world_rock_kind, u_31_3, f_h0_site_world_rock_hard, u_31_4, f_h0_site_world_rock_water, u_45_14, u_31_6, h0_site_world_crew_count, f_h0_site_world_crew_cell, u_45_16, f_h0_site_world_crew_buckets, u_45_17, u_31_9, u_31_10, u_45_11, u_31_12, u_31_13, h0_site_world_folk_listeners, h0_site_world_folk_noises, h0_site_world_folk_hushed, h0_site_world_folk_hearsay, h0_site_world_folk_wells, f_h0_site_world_folk_column, u_45_12, f_h0_site_world_folk_ear, u_31_15, f_h0_site_world_folk_noiseColumn, u_31_16, f_h0_site_world_folk_noiseLoud, u_31_17, f_h0_site_world_folk_hearsayColumn, u_31_18, f_h0_site_world_folk_hearsayLoud, u_31_19, f_h0_site_world_folk_sounds, u_31_20, f_h0_site_world_folk_wet, u_31_21, u_45_15, f_h0_site_world_term, f_h0_site_world_laws, u_31_23, u_45_18, u_45_19, h0_site_diary_kept, h0_site_diary_latest, f_h0_site_diary_deed, u_45_20, f_h0_site_diary_whose, u_45_21, f_h0_site_diary_before, u_45_22, f_h0_site_diary_bucketsBefore, u_45_23, f_h0_site_diary_dayBefore, u_45_24, u_45_2, u_45_3, u_45_4, u_45_5, u_45_6, u_45_7, u_45_8, u_45_9, u_45_10, u_62_1)))))))))))))))))))
set_option maxRecDepth 100000 in
def bndz {α : Type} (e : α) (k : α → Prop) : Prop := k e
set_option maxRecDepth 100000 in
def wl_X7_runSeasons_T_22 (b : Int32) (h0_world : Nat) (h0_world_lawCount : Int32) (h0_world_force : Int32) (h0_world_crew_count : Int32) (f_h0_world_rock_kind : Nat → Int32) (f_h0_world_laws : Nat → Option Nat) (h0_asker_done : Int32) (h0_asker_latest : Int32) (t : Nat) (t_clauses : Int32) (t_length : Int32) (n_t_heads : Nat) (f_t_heads : Nat → Int32) (n_t_code : Nat) (f_t_code : Nat → Int32) (h0_world_folk_listeners : Int32) (f_h0_world_folk_column : Nat → Int32) (f_h0_world_rock_hard : Nat → Int32) (Qb : Int32 → Int32 → (Nat → Int32) → (Nat → Int32) → Int64 → Value → Value → Int32 → Int32 → Int32 → Int32 → (Nat → Int64) → (Nat → Int32) → (Nat → Int32) → Int32 → Int32 → (Nat → Int32) → (Nat → Int32) → (Nat → Int32) → (Nat → Int32) → (Nat → Int32) → Prop) : Nat → Int32 → Int32 → (Nat → Int32) → (Nat → Int32) → Int64 → Value → Value → Int32 → Int32 → Int32 → Int32 → (Nat → Int64) → (Nat → Int32) → (Nat → Int32) → Int32 → Int32 → (Nat → Int32) → (Nat → Int32) → (Nat → Int32) → (Nat → Int32) → (Nat → Int32) → Prop
  | 0, _, _, _, _, _, _, _, _, _, _, _, _, _, _, _, _, _, _, _, _, _ => False
  | n + 1, x_22_0, x_22_1, x_22_2, x_22_3, x_22_4, x_22_5, x_22_6, x_22_7, x_22_8, x_22_9, x_22_10, x_22_11, x_22_12, x_22_13, x_22_14, x_22_15, x_22_16, x_22_17, x_22_18, x_22_19, x_22_20 => (if b ≤ x_22_0 then (Qb x_22_0 x_22_1 x_22_2 x_22_3 x_22_4 x_22_5 x_22_6 x_22_7 x_22_8 x_22_9 x_22_10 x_22_11 x_22_12 x_22_13 x_22_14 x_22_15 x_22_16 x_22_17 x_22_18 x_22_19 x_22_20) else (bndz (irm ((x_22_1 * 1103) + 12345) 1000003) (fun (z_40 : Int32) => (¬ h0_world_crew_count = 0 ∧ (bndz (irm z_40 h0_world_crew_count) (fun (z_46 : Int32) => (bndz (irm ((z_40 * 1103) + 12345) 1000003) (fun (z_61 : Int32) => (bndz (irm z_61 3) (fun (z_67 : Int32) => (wp_X7_tryHaul_T z_46 h0_world h0_world_lawCount h0_world_force h0_world_crew_count (x_22_2) (x_22_3) (f_h0_world_rock_kind) (f_h0_world_laws) x_22_5 x_22_6 x_22_7 x_22_8 x_22_9 h0_asker_done h0_asker_latest x_22_10 t t_clauses t_length n_t_heads (f_t_heads) n_t_code (f_t_code) (x_22_11) h0_world_folk_listeners (f_h0_world_folk_column) (f_h0_world_rock_hard) (x_22_12) (x_22_13) x_22_14 x_22_15 (x_22_16) (x_22_17) (x_22_18) (x_22_19) (x_22_20) (fun (r_73 : Int32) => (un17 (fun (u_73_0 : Nat → Int32) (u_73_1 : Value) (u_73_2 : Value) (u_73_3 : Int32) (u_73_4 : Int32) (u_73_5 : Int32) (u_73_6 : Int32) (u_73_7 : Nat → Int64) (u_73_8 : Nat → Int32) (u_73_9 : Nat → Int32) (u_73_10 : Int32) (u_73_11 : Int32) (u_73_12 : Nat → Int32) (u_73_13 : Nat → Int32) (u_73_14 : Nat → Int32) (u_73_15 : Nat → Int32) (u_73_16 : Nat → Int32) => (if 0 ≤ r_73 then (wl_X7_runSeasons_T_22 b h0_world h0_world_lawCount h0_world_force h0_world_crew_count f_h0_world_rock_kind f_h0_world_laws h0_asker_done h0_asker_latest t t_clauses t_length n_t_heads f_t_heads n_t_code f_t_code h0_world_folk_listeners f_h0_world_folk_column f_h0_world_rock_hard Qb n (x_22_0 + 1) z_61 x_22_2 u_73_0 x_22_4 u_73_1 u_73_2 u_73_3 u_73_4 u_73_5 u_73_6 u_73_7 u_73_8 u_73_9 u_73_10 u_73_11 u_73_12 u_73_13 u_73_14 u_73_15 u_73_16) else (wp_X7_tryDig_T z_46 z_67 h0_world h0_world_lawCount h0_world_force h0_world_crew_count (x_22_2) x_22_4 (f_h0_world_rock_kind) (f_h0_world_laws) u_73_1 u_73_2 u_73_3 u_73_4 u_73_5 h0_asker_done h0_asker_latest u_73_6 (u_73_0) (f_h0_world_rock_hard) t t_clauses t_length n_t_heads (f_t_heads) n_t_code (f_t_code) (u_73_7) h0_world_folk_listeners (f_h0_world_folk_column) (u_73_8) (u_73_9) u_73_10 u_73_11 (u_73_12) (u_73_13) (u_73_14) (u_73_15) (u_73_16) (fun (r_84 : Int32) => (un17 (fun (u_84_0 : Nat → Int32) (u_84_1 : Int64) (u_84_2 : Value) (u_84_3 : Value) (u_84_4 : Int32) (u_84_5 : Int32) (u_84_6 : Int32) (u_84_7 : Int32) (u_84_8 : Nat → Int32) (u_84_9 : Nat → Int64) (u_84_10 : Int32) (u_84_11 : Int32) (u_84_12 : Nat → Int32) (u_84_13 : Nat → Int32) (u_84_14 : Nat → Int32) (u_84_15 : Nat → Int32) (u_84_16 : Nat → Int32) => (if r_84 < 0 then (if 9999 ≤ (u_84_8 (0 : Int32).toNatClampNeg) then (wl_X7_runSeasons_T_22 b h0_world h0_world_lawCount h0_world_force h0_world_crew_count f_h0_world_rock_kind f_h0_world_laws h0_asker_done h0_asker_latest t t_clauses t_length n_t_heads f_t_heads n_t_code f_t_code h0_world_folk_listeners f_h0_world_folk_column f_h0_world_rock_hard Qb n (x_22_0 + 1) z_61 u_84_0 u_84_8 u_84_1 u_84_2 u_84_3 u_84_4 u_84_5 u_84_6 u_84_7 u_84_9 u_73_8 u_73_9 u_84_10 u_84_11 u_84_12 u_84_13 u_84_14 u_84_15 u_84_16) else (wl_X7_runSeasons_T_22 b h0_world h0_world_lawCount h0_world_force h0_world_crew_count f_h0_world_rock_kind f_h0_world_laws h0_asker_done h0_asker_latest t t_clauses t_length n_t_heads f_t_heads n_t_code f_t_code h0_world_folk_listeners f_h0_world_folk_column f_h0_world_rock_hard Qb n (x_22_0 + 1) z_61 u_84_0 (upd u_84_8 0 ((u_84_8 (0 : Int32).toNatClampNeg) + 1)) u_84_1 u_84_2 u_84_3 u_84_4 u_84_5 u_84_6 u_84_7 u_84_9 u_73_8 u_73_9 u_84_10 u_84_11 u_84_12 u_84_13 u_84_14 u_84_15 u_84_16)) else (wl_X7_runSeasons_T_22 b h0_world h0_world_lawCount h0_world_force h0_world_crew_count f_h0_world_rock_kind f_h0_world_laws h0_asker_done h0_asker_latest t t_clauses t_length n_t_heads f_t_heads n_t_code f_t_code h0_world_folk_listeners f_h0_world_folk_column f_h0_world_rock_hard Qb n (x_22_0 + 1) z_61 u_84_0 u_84_8 u_84_1 u_84_2 u_84_3 u_84_4 u_84_5 u_84_6 u_84_7 u_84_9 u_73_8 u_73_9 u_84_10 u_84_11 u_84_12 u_84_13 u_84_14 u_84_15 u_84_16)))))))))))))))))))))
set_option maxRecDepth 100000 in
def wp_X7_runSeasons_T (a : Int32) (b : Int32) (h0_world : Nat) (h0_world_lawCount : Int32) (h0_world_force : Int32) (h0_world_crew_count : Int32) (f_h0_world_crew_cell : Nat → Int32) (f_h0_world_term : Nat → Int32) (h0_world_rock_dug : Int64) (f_h0_world_rock_kind : Nat → Int32) (f_h0_world_laws : Nat → Option Nat) (h0_asker_world : Value) (h0_asker_law : Value) (h0_asker_cell : Int32) (h0_asker_shaft : Int32) (h0_asker_kind : Int32) (h0_asker_done : Int32) (h0_asker_latest : Int32) (h0_asker_value : Int32) (t : Nat) (t_clauses : Int32) (t_length : Int32) (n_t_heads : Nat) (f_t_heads : Nat → Int32) (n_t_code : Nat) (f_t_code : Nat → Int32) (f_h0_asker_stack : Nat → Int64) (h0_world_folk_listeners : Int32) (f_h0_world_folk_column : Nat → Int32) (f_h0_world_rock_hard : Nat → Int32) (f_h0_world_rock_water : Nat → Int32) (f_h0_world_crew_buckets : Nat → Int32) (h0_diary_kept : Int32) (h0_diary_latest : Int32) (f_h0_diary_deed : Nat → Int32) (f_h0_diary_whose : Nat → Int32) (f_h0_diary_before : Nat → Int32) (f_h0_diary_bucketsBefore : Nat → Int32) (f_h0_diary_dayBefore : Nat → Int32) (Q : ((Nat → Int32) × (Nat → Int32) × Int64 × Value × Value × Int32 × Int32 × Int32 × Int32 × (Nat → Int64) × (Nat → Int32) × (Nat → Int32) × Int32 × Int32 × (Nat → Int32) × (Nat → Int32) × (Nat → Int32) × (Nat → Int32) × (Nat → Int32)) → Prop) : Prop := (if h0_world_crew_count = 0 then (Q (f_h0_world_crew_cell, f_h0_world_term, h0_world_rock_dug, h0_asker_world, h0_asker_law, h0_asker_cell, h0_asker_shaft, h0_asker_kind, h0_asker_value, f_h0_asker_stack, f_h0_world_rock_water, f_h0_world_crew_buckets, h0_diary_kept, h0_diary_latest, f_h0_diary_deed, f_h0_diary_whose, f_h0_diary_before, f_h0_diary_bucketsBefore, f_h0_diary_dayBefore)) else (wl_X7_runSeasons_T_22 b h0_world h0_world_lawCount h0_world_force h0_world_crew_count f_h0_world_rock_kind f_h0_world_laws h0_asker_done h0_asker_latest t t_clauses t_length n_t_heads f_t_heads n_t_code f_t_code h0_world_folk_listeners f_h0_world_folk_column f_h0_world_rock_hard (fun (x_22_0 : Int32) (x_22_1 : Int32) (x_22_2 : Nat → Int32) (x_22_3 : Nat → Int32) (x_22_4 : Int64) (x_22_5 : Value) (x_22_6 : Value) (x_22_7 : Int32) (x_22_8 : Int32) (x_22_9 : Int32) (x_22_10 : Int32) (x_22_11 : Nat → Int64) (x_22_12 : Nat → Int32) (x_22_13 : Nat → Int32) (x_22_14 : Int32) (x_22_15 : Int32) (x_22_16 : Nat → Int32) (x_22_17 : Nat → Int32) (x_22_18 : Nat → Int32) (x_22_19 : Nat → Int32) (x_22_20 : Nat → Int32) => (Q (x_22_2, x_22_3, x_22_4, x_22_5, x_22_6, x_22_7, x_22_8, x_22_9, x_22_10, x_22_11, x_22_12, x_22_13, x_22_14, x_22_15, x_22_16, x_22_17, x_22_18, x_22_19, x_22_20))) 1000000000000 0 a f_h0_world_crew_cell f_h0_world_term h0_world_rock_dug h0_asker_world h0_asker_law h0_asker_cell h0_asker_shaft h0_asker_kind h0_asker_value f_h0_asker_stack f_h0_world_rock_water f_h0_world_crew_buckets h0_diary_kept h0_diary_latest f_h0_diary_deed f_h0_diary_whose f_h0_diary_before f_h0_diary_bucketsBefore f_h0_diary_dayBefore))
set_option maxRecDepth 100000 in
def wl_X7_runSeasons_N_22 (b : Int32) (h0_world : Nat) (h0_world_lawCount : Int32) (h0_world_force : Int32) (h0_world_crew_count : Int32) (f_h0_world_rock_kind : Nat → Int32) (f_h0_world_laws : Nat → Option Nat) (f_h0_world_rock_hard : Nat → Int32) (Qb : Int32 → Int32 → (Nat → Int32) → (Nat → Int32) → Int64 → Value → Value → Int32 → Int32 → Int32 → (Nat → Int32) → (Nat → Int32) → Int32 → Int32 → (Nat → Int32) → (Nat → Int32) → (Nat → Int32) → (Nat → Int32) → (Nat → Int32) → Prop) : Nat → Int32 → Int32 → (Nat → Int32) → (Nat → Int32) → Int64 → Value → Value → Int32 → Int32 → Int32 → (Nat → Int32) → (Nat → Int32) → Int32 → Int32 → (Nat → Int32) → (Nat → Int32) → (Nat → Int32) → (Nat → Int32) → (Nat → Int32) → Prop
  | 0, _, _, _, _, _, _, _, _, _, _, _, _, _, _, _, _, _, _, _ => False
  | n + 1, x_22_0, x_22_1, x_22_2, x_22_3, x_22_4, x_22_5, x_22_6, x_22_7, x_22_8, x_22_9, x_22_10, x_22_11, x_22_12, x_22_13, x_22_14, x_22_15, x_22_16, x_22_17, x_22_18 => (if b ≤ x_22_0 then (Qb x_22_0 x_22_1 x_22_2 x_22_3 x_22_4 x_22_5 x_22_6 x_22_7 x_22_8 x_22_9 x_22_10 x_22_11 x_22_12 x_22_13 x_22_14 x_22_15 x_22_16 x_22_17 x_22_18) else (bndz (irm ((x_22_1 * 1103) + 12345) 1000003) (fun (z_40 : Int32) => (¬ h0_world_crew_count = 0 ∧ (bndz (irm z_40 h0_world_crew_count) (fun (z_46 : Int32) => (bndz (irm ((z_40 * 1103) + 12345) 1000003) (fun (z_61 : Int32) => (bndz (irm z_61 3) (fun (z_67 : Int32) => (wp_X7_tryHaul_N z_46 h0_world h0_world_lawCount h0_world_force h0_world_crew_count (x_22_2) (x_22_3) (f_h0_world_rock_kind) (f_h0_world_laws) x_22_5 x_22_6 x_22_7 x_22_8 x_22_9 (x_22_10) (x_22_11) x_22_12 x_22_13 (x_22_14) (x_22_15) (x_22_16) (x_22_17) (x_22_18) (fun (r_73 : Int32) => (un15 (fun (u_73_0 : Nat → Int32) (u_73_1 : Value) (u_73_2 : Value) (u_73_3 : Int32) (u_73_4 : Int32) (u_73_5 : Int32) (u_73_6 : Nat → Int32) (u_73_7 : Nat → Int32) (u_73_8 : Int32) (u_73_9 : Int32) (u_73_10 : Nat → Int32) (u_73_11 : Nat → Int32) (u_73_12 : Nat → Int32) (u_73_13 : Nat → Int32) (u_73_14 : Nat → Int32) => (if 0 ≤ r_73 then (wl_X7_runSeasons_N_22 b h0_world h0_world_lawCount h0_world_force h0_world_crew_count f_h0_world_rock_kind f_h0_world_laws f_h0_world_rock_hard Qb n (x_22_0 + 1) z_61 x_22_2 u_73_0 x_22_4 u_73_1 u_73_2 u_73_3 u_73_4 u_73_5 u_73_6 u_73_7 u_73_8 u_73_9 u_73_10 u_73_11 u_73_12 u_73_13 u_73_14) else (wp_X7_tryDig_N z_46 z_67 h0_world h0_world_lawCount h0_world_force h0_world_crew_count (x_22_2) x_22_4 (f_h0_world_rock_kind) (f_h0_world_laws) u_73_1 u_73_2 u_73_3 u_73_4 u_73_5 (u_73_0) (f_h0_world_rock_hard) u_73_8 u_73_9 (u_73_10) (u_73_11) (u_73_12) (u_73_13) (u_73_14) (fun (r_84 : Int32) => (un15 (fun (u_84_0 : Nat → Int32) (u_84_1 : Int64) (u_84_2 : Value) (u_84_3 : Value) (u_84_4 : Int32) (u_84_5 : Int32) (u_84_6 : Int32) (u_84_7 : Nat → Int32) (u_84_8 : Int32) (u_84_9 : Int32) (u_84_10 : Nat → Int32) (u_84_11 : Nat → Int32) (u_84_12 : Nat → Int32) (u_84_13 : Nat → Int32) (u_84_14 : Nat → Int32) => (if r_84 < 0 then (if 9999 ≤ (u_84_7 (0 : Int32).toNatClampNeg) then (wl_X7_runSeasons_N_22 b h0_world h0_world_lawCount h0_world_force h0_world_crew_count f_h0_world_rock_kind f_h0_world_laws f_h0_world_rock_hard Qb n (x_22_0 + 1) z_61 u_84_0 u_84_7 u_84_1 u_84_2 u_84_3 u_84_4 u_84_5 u_84_6 u_73_6 u_73_7 u_84_8 u_84_9 u_84_10 u_84_11 u_84_12 u_84_13 u_84_14) else (wl_X7_runSeasons_N_22 b h0_world h0_world_lawCount h0_world_force h0_world_crew_count f_h0_world_rock_kind f_h0_world_laws f_h0_world_rock_hard Qb n (x_22_0 + 1) z_61 u_84_0 (upd u_84_7 0 ((u_84_7 (0 : Int32).toNatClampNeg) + 1)) u_84_1 u_84_2 u_84_3 u_84_4 u_84_5 u_84_6 u_73_6 u_73_7 u_84_8 u_84_9 u_84_10 u_84_11 u_84_12 u_84_13 u_84_14)) else (wl_X7_runSeasons_N_22 b h0_world h0_world_lawCount h0_world_force h0_world_crew_count f_h0_world_rock_kind f_h0_world_laws f_h0_world_rock_hard Qb n (x_22_0 + 1) z_61 u_84_0 u_84_7 u_84_1 u_84_2 u_84_3 u_84_4 u_84_5 u_84_6 u_73_6 u_73_7 u_84_8 u_84_9 u_84_10 u_84_11 u_84_12 u_84_13 u_84_14)))))))))))))))))))))
set_option maxRecDepth 100000 in
def wp_X7_runSeasons_N (a : Int32) (b : Int32) (h0_world : Nat) (h0_world_lawCount : Int32) (h0_world_force : Int32) (h0_world_crew_count : Int32) (f_h0_world_crew_cell : Nat → Int32) (f_h0_world_term : Nat → Int32) (h0_world_rock_dug : Int64) (f_h0_world_rock_kind : Nat → Int32) (f_h0_world_laws : Nat → Option Nat) (h0_asker_world : Value) (h0_asker_law : Value) (h0_asker_cell : Int32) (h0_asker_shaft : Int32) (h0_asker_kind : Int32) (f_h0_world_rock_water : Nat → Int32) (f_h0_world_crew_buckets : Nat → Int32) (h0_diary_kept : Int32) (h0_diary_latest : Int32) (f_h0_diary_deed : Nat → Int32) (f_h0_diary_whose : Nat → Int32) (f_h0_diary_before : Nat → Int32) (f_h0_diary_bucketsBefore : Nat → Int32) (f_h0_diary_dayBefore : Nat → Int32) (f_h0_world_rock_hard : Nat → Int32) (Q : ((Nat → Int32) × (Nat → Int32) × Int64 × Value × Value × Int32 × Int32 × Int32 × (Nat → Int32) × (Nat → Int32) × Int32 × Int32 × (Nat → Int32) × (Nat → Int32) × (Nat → Int32) × (Nat → Int32) × (Nat → Int32)) → Prop) : Prop := (if h0_world_crew_count = 0 then (Q (f_h0_world_crew_cell, f_h0_world_term, h0_world_rock_dug, h0_asker_world, h0_asker_law, h0_asker_cell, h0_asker_shaft, h0_asker_kind, f_h0_world_rock_water, f_h0_world_crew_buckets, h0_diary_kept, h0_diary_latest, f_h0_diary_deed, f_h0_diary_whose, f_h0_diary_before, f_h0_diary_bucketsBefore, f_h0_diary_dayBefore)) else (wl_X7_runSeasons_N_22 b h0_world h0_world_lawCount h0_world_force h0_world_crew_count f_h0_world_rock_kind f_h0_world_laws f_h0_world_rock_hard (fun (x_22_0 : Int32) (x_22_1 : Int32) (x_22_2 : Nat → Int32) (x_22_3 : Nat → Int32) (x_22_4 : Int64) (x_22_5 : Value) (x_22_6 : Value) (x_22_7 : Int32) (x_22_8 : Int32) (x_22_9 : Int32) (x_22_10 : Nat → Int32) (x_22_11 : Nat → Int32) (x_22_12 : Int32) (x_22_13 : Int32) (x_22_14 : Nat → Int32) (x_22_15 : Nat → Int32) (x_22_16 : Nat → Int32) (x_22_17 : Nat → Int32) (x_22_18 : Nat → Int32) => (Q (x_22_2, x_22_3, x_22_4, x_22_5, x_22_6, x_22_7, x_22_8, x_22_9, x_22_10, x_22_11, x_22_12, x_22_13, x_22_14, x_22_15, x_22_16, x_22_17, x_22_18))) 1000000000000 0 a f_h0_world_crew_cell f_h0_world_term h0_world_rock_dug h0_asker_world h0_asker_law h0_asker_cell h0_asker_shaft h0_asker_kind f_h0_world_rock_water f_h0_world_crew_buckets h0_diary_kept h0_diary_latest f_h0_diary_deed f_h0_diary_whose f_h0_diary_before f_h0_diary_bucketsBefore f_h0_diary_dayBefore))
set_option maxRecDepth 100000 in
def wp_X11_seasons_N (a : Int32) (b : Int32) (h0_drawnDay : Int32) (f_h0_refusals : Nat → Int32) (h0_site_world_lawCount : Int32) (h0_site_world_force : Int32) (h0_site_world_crew_count : Int32) (h0_paper_world : Nat) (h0_paper_world_lawCount : Int32) (h0_paper_world_force : Int32) (h0_paper_world_rock_dug : Int64) (h0_site_world_rock_dug : Int64) (f_h0_site_world_rock_kind : Nat → Int32) (f_h0_paper_world_rock_kind : Nat → Int32) (f_h0_site_world_rock_hard : Nat → Int32) (f_h0_paper_world_rock_hard : Nat → Int32) (f_h0_site_world_rock_water : Nat → Int32) (f_h0_paper_world_rock_water : Nat → Int32) (h0_paper_world_crew_count : Int32) (f_h0_site_world_crew_cell : Nat → Int32) (f_h0_paper_world_crew_cell : Nat → Int32) (f_h0_site_world_crew_buckets : Nat → Int32) (f_h0_paper_world_crew_buckets : Nat → Int32) (h0_paper_world_folk_listeners : Int32) (h0_paper_world_folk_noises : Int32) (h0_paper_world_folk_hushed : Int32) (h0_paper_world_folk_hearsay : Int32) (h0_paper_world_folk_wells : Int32) (h0_site_world_folk_listeners : Int32) (h0_site_world_folk_noises : Int32) (h0_site_world_folk_hushed : Int32) (h0_site_world_folk_hearsay : Int32) (h0_site_world_folk_wells : Int32) (f_h0_site_world_folk_column : Nat → Int32) (f_h0_paper_world_folk_column : Nat → Int32) (f_h0_site_world_folk_ear : Nat → Int32) (f_h0_paper_world_folk_ear : Nat → Int32) (f_h0_site_world_folk_noiseColumn : Nat → Int32) (f_h0_paper_world_folk_noiseColumn : Nat → Int32) (f_h0_site_world_folk_noiseLoud : Nat → Int32) (f_h0_paper_world_folk_noiseLoud : Nat → Int32) (f_h0_site_world_folk_hearsayColumn : Nat → Int32) (f_h0_paper_world_folk_hearsayColumn : Nat → Int32) (f_h0_site_world_folk_hearsayLoud : Nat → Int32) (f_h0_paper_world_folk_hearsayLoud : Nat → Int32) (f_h0_site_world_folk_sounds : Nat → Int32) (f_h0_paper_world_folk_sounds : Nat → Int32) (f_h0_site_world_folk_wet : Nat → Int32) (f_h0_paper_world_folk_wet : Nat → Int32) (f_h0_paper_world_term : Nat → Int32) (f_h0_site_world_term : Nat → Int32) (f_h0_site_world_laws : Nat → Option Nat) (f_h0_paper_world_laws : Nat → Option Nat) (h0_paper_diary_kept : Int32) (h0_paper_diary_latest : Int32) (h0_site_diary_kept : Int32) (h0_site_diary_latest : Int32) (f_h0_site_diary_deed : Nat → Int32) (f_h0_paper_diary_deed : Nat → Int32) (f_h0_site_diary_whose : Nat → Int32) (f_h0_paper_diary_whose : Nat → Int32) (f_h0_site_diary_before : Nat → Int32) (f_h0_paper_diary_before : Nat → Int32) (f_h0_site_diary_bucketsBefore : Nat → Int32) (f_h0_paper_diary_bucketsBefore : Nat → Int32) (f_h0_site_diary_dayBefore : Nat → Int32) (f_h0_paper_diary_dayBefore : Nat → Int32) (h0_asker_world : Value) (h0_asker_law : Value) (h0_asker_cell : Int32) (h0_asker_shaft : Int32) (h0_asker_kind : Int32) (h0_drawnCrew_count : Int32) (f_h0_drawnCrew_cell : Nat → Int32) (f_h0_drawnCrew_buckets : Nat → Int32) (TT : Nat → Prop) (Q : Int32 → (Int32 × Int32 × (Nat → Int32) × Int32 × Int32 × Int64 × (Nat → Int32) × (Nat → Int32) × (Nat → Int32) × Int32 × (Nat → Int32) × (Nat → Int32) × Int32 × Int32 × Int32 × Int32 × Int32 × (Nat → Int32) × (Nat → Int32) × (Nat → Int32) × (Nat → Int32) × (Nat → Int32) × (Nat → Int32) × (Nat → Int32) × (Nat → Int32) × (Nat → Int32) × (Nat → Option Nat) × Int32 × Int32 × (Nat → Int32) × (Nat → Int32) × (Nat → Int32) × (Nat → Int32) × (Nat → Int32) × Value × Value × Int32 × Int32 × Int32 × Int32 × (Nat → Int32) × (Nat → Int32)) → Prop) : Prop := (wp_X11_isWithin a 1000001 (fun (r_4 : Int32) => (if r_4 = 0 then (wp_X11_settle (-1) (f_h0_refusals) (fun (r_23 : Int32) => (un2 (fun (u_23_0 : Int32) (u_23_1 : Nat → Int32) => (Q r_23 (h0_drawnDay, u_23_0, u_23_1, h0_paper_world_lawCount, h0_paper_world_force, h0_paper_world_rock_dug, f_h0_paper_world_rock_kind, f_h0_paper_world_rock_hard, f_h0_paper_world_rock_water, h0_paper_world_crew_count, f_h0_paper_world_crew_cell, f_h0_paper_world_crew_buckets, h0_paper_world_folk_listeners, h0_paper_world_folk_noises, h0_paper_world_folk_hushed, h0_paper_world_folk_hearsay, h0_paper_world_folk_wells, f_h0_paper_world_folk_column, f_h0_paper_world_folk_ear, f_h0_paper_world_folk_noiseColumn, f_h0_paper_world_folk_noiseLoud, f_h0_paper_world_folk_hearsayColumn, f_h0_paper_world_folk_hearsayLoud, f_h0_paper_world_folk_sounds, f_h0_paper_world_folk_wet, f_h0_paper_world_term, f_h0_paper_world_laws, h0_paper_diary_kept, h0_paper_diary_latest, f_h0_paper_diary_deed, f_h0_paper_diary_whose, f_h0_paper_diary_before, f_h0_paper_diary_bucketsBefore, f_h0_paper_diary_dayBefore, h0_asker_world, h0_asker_law, h0_asker_cell, h0_asker_shaft, h0_asker_kind, h0_drawnCrew_count, f_h0_drawnCrew_cell, f_h0_drawnCrew_buckets)))))) else (if b < 1 then (wp_X11_settle (-1) (f_h0_refusals) (fun (r_23 : Int32) => (un2 (fun (u_23_0 : Int32) (u_23_1 : Nat → Int32) => (Q r_23 (h0_drawnDay, u_23_0, u_23_1, h0_paper_world_lawCount, h0_paper_world_force, h0_paper_world_rock_dug, f_h0_paper_world_rock_kind, f_h0_paper_world_rock_hard, f_h0_paper_world_rock_water, h0_paper_world_crew_count, f_h0_paper_world_crew_cell, f_h0_paper_world_crew_buckets, h0_paper_world_folk_listeners, h0_paper_world_folk_noises, h0_paper_world_folk_hushed, h0_paper_world_folk_hearsay, h0_paper_world_folk_wells, f_h0_paper_world_folk_column, f_h0_paper_world_folk_ear, f_h0_paper_world_folk_noiseColumn, f_h0_paper_world_folk_noiseLoud, f_h0_paper_world_folk_hearsayColumn, f_h0_paper_world_folk_hearsayLoud, f_h0_paper_world_folk_sounds, f_h0_paper_world_folk_wet, f_h0_paper_world_term, f_h0_paper_world_laws, h0_paper_diary_kept, h0_paper_diary_latest, f_h0_paper_diary_deed, f_h0_paper_diary_whose, f_h0_paper_diary_before, f_h0_paper_diary_bucketsBefore, f_h0_paper_diary_dayBefore, h0_asker_world, h0_asker_law, h0_asker_cell, h0_asker_shaft, h0_asker_kind, h0_drawnCrew_count, f_h0_drawnCrew_cell, f_h0_drawnCrew_buckets)))))) else (if b ≤ 60 then (if h0_site_world_crew_count = 0 then (wp_X11_settle (-3) (f_h0_refusals) (fun (r_46 : Int32) => (un2 (fun (u_46_0 : Int32) (u_46_1 : Nat → Int32) => (Q r_46 (h0_drawnDay, u_46_0, u_46_1, h0_paper_world_lawCount, h0_paper_world_force, h0_paper_world_rock_dug, f_h0_paper_world_rock_kind, f_h0_paper_world_rock_hard, f_h0_paper_world_rock_water, h0_paper_world_crew_count, f_h0_paper_world_crew_cell, f_h0_paper_world_crew_buckets, h0_paper_world_folk_listeners, h0_paper_world_folk_noises, h0_paper_world_folk_hushed, h0_paper_world_folk_hearsay, h0_paper_world_folk_wells, f_h0_paper_world_folk_column, f_h0_paper_world_folk_ear, f_h0_paper_world_folk_noiseColumn, f_h0_paper_world_folk_noiseLoud, f_h0_paper_world_folk_hearsayColumn, f_h0_paper_world_folk_hearsayLoud, f_h0_paper_world_folk_sounds, f_h0_paper_world_folk_wet, f_h0_paper_world_term, f_h0_paper_world_laws, h0_paper_diary_kept, h0_paper_diary_latest, f_h0_paper_diary_deed, f_h0_paper_diary_whose, f_h0_paper_diary_before, f_h0_paper_diary_bucketsBefore, f_h0_paper_diary_dayBefore, h0_asker_world, h0_asker_law, h0_asker_cell, h0_asker_shaft, h0_asker_kind, h0_drawnCrew_count, f_h0_drawnCrew_cell, f_h0_drawnCrew_buckets)))))) else (wp_X7_copyFrom h0_site_world_lawCount h0_site_world_force h0_site_world_rock_dug (f_h0_site_world_rock_kind) (f_h0_paper_world_rock_kind) (f_h0_site_world_rock_hard) (f_h0_paper_world_rock_hard) (f_h0_site_world_rock_water) (f_h0_paper_world_rock_water) h0_site_world_crew_count (f_h0_site_world_crew_cell) (f_h0_paper_world_crew_cell) (f_h0_site_world_crew_buckets) (f_h0_paper_world_crew_buckets) h0_site_world_folk_listeners h0_site_world_folk_noises h0_site_world_folk_hushed h0_site_world_folk_hearsay h0_site_world_folk_wells (f_h0_site_world_folk_column) (f_h0_paper_world_folk_column) (f_h0_site_world_folk_ear) (f_h0_paper_world_folk_ear) (f_h0_site_world_folk_noiseColumn) (f_h0_paper_world_folk_noiseColumn) (f_h0_site_world_folk_noiseLoud) (f_h0_paper_world_folk_noiseLoud) (f_h0_site_world_folk_hearsayColumn) (f_h0_paper_world_folk_hearsayColumn) (f_h0_site_world_folk_hearsayLoud) (f_h0_paper_world_folk_hearsayLoud) (f_h0_site_world_folk_sounds) (f_h0_paper_world_folk_sounds) (f_h0_site_world_folk_wet) (f_h0_paper_world_folk_wet) (f_h0_paper_world_term) (f_h0_site_world_term) (f_h0_site_world_laws) (f_h0_paper_world_laws) h0_site_diary_kept h0_site_diary_latest (f_h0_site_diary_deed) (f_h0_paper_diary_deed) (f_h0_site_diary_whose) (f_h0_paper_diary_whose) (f_h0_site_diary_before) (f_h0_paper_diary_before) (f_h0_site_diary_bucketsBefore) (f_h0_paper_diary_bucketsBefore) (f_h0_site_diary_dayBefore) (f_h0_paper_diary_dayBefore) TT (un31 (fun (u_58_0 : Int32) (u_58_1 : Int32) (u_58_2 : Int64) (u_58_3 : Nat → Int32) (u_58_4 : Nat → Int32) (u_58_5 : Nat → Int32) (u_58_6 : Int32) (u_58_7 : Nat → Int32) (u_58_8 : Nat → Int32) (u_58_9 : Int32) (u_58_10 : Int32) (u_58_11 : Int32) (u_58_12 : Int32) (u_58_13 : Int32) (u_58_14 : Nat → Int32) (u_58_15 : Nat → Int32) (u_58_16 : Nat → Int32) (u_58_17 : Nat → Int32) (u_58_18 : Nat → Int32) (u_58_19 : Nat → Int32) (u_58_20 : Nat → Int32) (u_58_21 : Nat → Int32) (u_58_22 : Nat → Int32) (u_58_23 : Nat → Option Nat) (u_58_24 : Int32) (u_58_25 : Int32) (u_58_26 : Nat → Int32) (u_58_27 : Nat → Int32) (u_58_28 : Nat → Int32) (u_58_29 : Nat → Int32) (u_58_30 : Nat → Int32) => (wp_X7_runSeasons_N a b h0_paper_world u_58_0 u_58_1 u_58_6 (u_58_7) (u_58_22) u_58_2 (u_58_3) (u_58_23) h0_asker_world h0_asker_law h0_asker_cell h0_asker_shaft h0_asker_kind (u_58_5) (u_58_8) u_58_24 u_58_25 (u_58_26) (u_58_27) (u_58_28) (u_58_29) (u_58_30) (u_58_4) (un17 (fun (u_67_0 : Nat → Int32) (u_67_1 : Nat → Int32) (u_67_2 : Int64) (u_67_3 : Value) (u_67_4 : Value) (u_67_5 : Int32) (u_67_6 : Int32) (u_67_7 : Int32) (u_67_8 : Nat → Int32) (u_67_9 : Nat → Int32) (u_67_10 : Int32) (u_67_11 : Int32) (u_67_12 : Nat → Int32) (u_67_13 : Nat → Int32) (u_67_14 : Nat → Int32) (u_67_15 : Nat → Int32) (u_67_16 : Nat → Int32) => (wp_X1_copyFrom u_58_6 (u_67_0) (f_h0_drawnCrew_cell) (u_67_9) (f_h0_drawnCrew_buckets) (un3 (fun (u_84_0 : Int32) (u_84_1 : Nat → Int32) (u_84_2 : Nat → Int32) => (wp_X1_allBuckets u_84_0 (u_84_2) (fun (r_108 : Int32) => (wp_X1_allBuckets h0_site_world_crew_count (f_h0_site_world_crew_buckets) (fun (r_121 : Int32) => (wp_X11_settle (r_108 - r_121) (f_h0_refusals) (fun (r_125 : Int32) => (un2 (fun (u_125_0 : Int32) (u_125_1 : Nat → Int32) => (Q r_125 ((u_67_1 (0 : Int32).toNatClampNeg), u_125_0, u_125_1, u_58_0, u_58_1, u_67_2, u_58_3, u_58_4, u_67_8, u_58_6, u_67_0, u_67_9, u_58_9, u_58_10, u_58_11, u_58_12, u_58_13, u_58_14, u_58_15, u_58_16, u_58_17, u_58_18, u_58_19, u_58_20, u_58_21, u_67_1, u_58_23, u_67_10, u_67_11, u_67_12, u_67_13, u_67_14, u_67_15, u_67_16, u_67_3, u_67_4, u_67_5, u_67_6, u_67_7, u_84_0, u_84_1, u_84_2)))))))))))))))))))) else (wp_X11_settle (-1) (f_h0_refusals) (fun (r_23 : Int32) => (un2 (fun (u_23_0 : Int32) (u_23_1 : Nat → Int32) => (Q r_23 (h0_drawnDay, u_23_0, u_23_1, h0_paper_world_lawCount, h0_paper_world_force, h0_paper_world_rock_dug, f_h0_paper_world_rock_kind, f_h0_paper_world_rock_hard, f_h0_paper_world_rock_water, h0_paper_world_crew_count, f_h0_paper_world_crew_cell, f_h0_paper_world_crew_buckets, h0_paper_world_folk_listeners, h0_paper_world_folk_noises, h0_paper_world_folk_hushed, h0_paper_world_folk_hearsay, h0_paper_world_folk_wells, f_h0_paper_world_folk_column, f_h0_paper_world_folk_ear, f_h0_paper_world_folk_noiseColumn, f_h0_paper_world_folk_noiseLoud, f_h0_paper_world_folk_hearsayColumn, f_h0_paper_world_folk_hearsayLoud, f_h0_paper_world_folk_sounds, f_h0_paper_world_folk_wet, f_h0_paper_world_term, f_h0_paper_world_laws, h0_paper_diary_kept, h0_paper_diary_latest, f_h0_paper_diary_deed, f_h0_paper_diary_whose, f_h0_paper_diary_before, f_h0_paper_diary_bucketsBefore, f_h0_paper_diary_dayBefore, h0_asker_world, h0_asker_law, h0_asker_cell, h0_asker_shaft, h0_asker_kind, h0_drawnCrew_count, f_h0_drawnCrew_cell, f_h0_drawnCrew_buckets)))))))))))
set_option maxRecDepth 100000 in
def wp_X11_seasons_T (a : Int32) (b : Int32) (h0_drawnDay : Int32) (f_h0_refusals : Nat → Int32) (h0_site_world_lawCount : Int32) (h0_site_world_force : Int32) (h0_site_world_crew_count : Int32) (h0_paper_world : Nat) (h0_paper_world_lawCount : Int32) (h0_paper_world_force : Int32) (h0_paper_world_rock_dug : Int64) (h0_site_world_rock_dug : Int64) (f_h0_site_world_rock_kind : Nat → Int32) (f_h0_paper_world_rock_kind : Nat → Int32) (f_h0_site_world_rock_hard : Nat → Int32) (f_h0_paper_world_rock_hard : Nat → Int32) (f_h0_site_world_rock_water : Nat → Int32) (f_h0_paper_world_rock_water : Nat → Int32) (h0_paper_world_crew_count : Int32) (f_h0_site_world_crew_cell : Nat → Int32) (f_h0_paper_world_crew_cell : Nat → Int32) (f_h0_site_world_crew_buckets : Nat → Int32) (f_h0_paper_world_crew_buckets : Nat → Int32) (h0_paper_world_folk_listeners : Int32) (h0_paper_world_folk_noises : Int32) (h0_paper_world_folk_hushed : Int32) (h0_paper_world_folk_hearsay : Int32) (h0_paper_world_folk_wells : Int32) (h0_site_world_folk_listeners : Int32) (h0_site_world_folk_noises : Int32) (h0_site_world_folk_hushed : Int32) (h0_site_world_folk_hearsay : Int32) (h0_site_world_folk_wells : Int32) (f_h0_site_world_folk_column : Nat → Int32) (f_h0_paper_world_folk_column : Nat → Int32) (f_h0_site_world_folk_ear : Nat → Int32) (f_h0_paper_world_folk_ear : Nat → Int32) (f_h0_site_world_folk_noiseColumn : Nat → Int32) (f_h0_paper_world_folk_noiseColumn : Nat → Int32) (f_h0_site_world_folk_noiseLoud : Nat → Int32) (f_h0_paper_world_folk_noiseLoud : Nat → Int32) (f_h0_site_world_folk_hearsayColumn : Nat → Int32) (f_h0_paper_world_folk_hearsayColumn : Nat → Int32) (f_h0_site_world_folk_hearsayLoud : Nat → Int32) (f_h0_paper_world_folk_hearsayLoud : Nat → Int32) (f_h0_site_world_folk_sounds : Nat → Int32) (f_h0_paper_world_folk_sounds : Nat → Int32) (f_h0_site_world_folk_wet : Nat → Int32) (f_h0_paper_world_folk_wet : Nat → Int32) (f_h0_paper_world_term : Nat → Int32) (f_h0_site_world_term : Nat → Int32) (f_h0_site_world_laws : Nat → Option Nat) (f_h0_paper_world_laws : Nat → Option Nat) (h0_paper_diary_kept : Int32) (h0_paper_diary_latest : Int32) (h0_site_diary_kept : Int32) (h0_site_diary_latest : Int32) (f_h0_site_diary_deed : Nat → Int32) (f_h0_paper_diary_deed : Nat → Int32) (f_h0_site_diary_whose : Nat → Int32) (f_h0_paper_diary_whose : Nat → Int32) (f_h0_site_diary_before : Nat → Int32) (f_h0_paper_diary_before : Nat → Int32) (f_h0_site_diary_bucketsBefore : Nat → Int32) (f_h0_paper_diary_bucketsBefore : Nat → Int32) (f_h0_site_diary_dayBefore : Nat → Int32) (f_h0_paper_diary_dayBefore : Nat → Int32) (h0_asker_world : Value) (h0_asker_law : Value) (h0_asker_cell : Int32) (h0_asker_shaft : Int32) (h0_asker_kind : Int32) (h0_asker_done : Int32) (h0_asker_latest : Int32) (h0_asker_value : Int32) (t : Nat) (t_clauses : Int32) (t_length : Int32) (n_t_heads : Nat) (f_t_heads : Nat → Int32) (n_t_code : Nat) (f_t_code : Nat → Int32) (f_h0_asker_stack : Nat → Int64) (h0_drawnCrew_count : Int32) (f_h0_drawnCrew_cell : Nat → Int32) (f_h0_drawnCrew_buckets : Nat → Int32) (TT : Nat → Prop) (Q : Int32 → (Int32 × Int32 × (Nat → Int32) × Int32 × Int32 × Int64 × (Nat → Int32) × (Nat → Int32) × (Nat → Int32) × Int32 × (Nat → Int32) × (Nat → Int32) × Int32 × Int32 × Int32 × Int32 × Int32 × (Nat → Int32) × (Nat → Int32) × (Nat → Int32) × (Nat → Int32) × (Nat → Int32) × (Nat → Int32) × (Nat → Int32) × (Nat → Int32) × (Nat → Int32) × (Nat → Option Nat) × Int32 × Int32 × (Nat → Int32) × (Nat → Int32) × (Nat → Int32) × (Nat → Int32) × (Nat → Int32) × Value × Value × Int32 × Int32 × Int32 × Int32 × (Nat → Int64) × Int32 × (Nat → Int32) × (Nat → Int32)) → Prop) : Prop := (wp_X11_isWithin a 1000001 (fun (r_4 : Int32) => (if r_4 = 0 then (wp_X11_settle (-1) (f_h0_refusals) (fun (r_23 : Int32) => (un2 (fun (u_23_0 : Int32) (u_23_1 : Nat → Int32) => (Q r_23 (h0_drawnDay, u_23_0, u_23_1, h0_paper_world_lawCount, h0_paper_world_force, h0_paper_world_rock_dug, f_h0_paper_world_rock_kind, f_h0_paper_world_rock_hard, f_h0_paper_world_rock_water, h0_paper_world_crew_count, f_h0_paper_world_crew_cell, f_h0_paper_world_crew_buckets, h0_paper_world_folk_listeners, h0_paper_world_folk_noises, h0_paper_world_folk_hushed, h0_paper_world_folk_hearsay, h0_paper_world_folk_wells, f_h0_paper_world_folk_column, f_h0_paper_world_folk_ear, f_h0_paper_world_folk_noiseColumn, f_h0_paper_world_folk_noiseLoud, f_h0_paper_world_folk_hearsayColumn, f_h0_paper_world_folk_hearsayLoud, f_h0_paper_world_folk_sounds, f_h0_paper_world_folk_wet, f_h0_paper_world_term, f_h0_paper_world_laws, h0_paper_diary_kept, h0_paper_diary_latest, f_h0_paper_diary_deed, f_h0_paper_diary_whose, f_h0_paper_diary_before, f_h0_paper_diary_bucketsBefore, f_h0_paper_diary_dayBefore, h0_asker_world, h0_asker_law, h0_asker_cell, h0_asker_shaft, h0_asker_kind, h0_asker_value, f_h0_asker_stack, h0_drawnCrew_count, f_h0_drawnCrew_cell, f_h0_drawnCrew_buckets)))))) else (if b < 1 then (wp_X11_settle (-1) (f_h0_refusals) (fun (r_23 : Int32) => (un2 (fun (u_23_0 : Int32) (u_23_1 : Nat → Int32) => (Q r_23 (h0_drawnDay, u_23_0, u_23_1, h0_paper_world_lawCount, h0_paper_world_force, h0_paper_world_rock_dug, f_h0_paper_world_rock_kind, f_h0_paper_world_rock_hard, f_h0_paper_world_rock_water, h0_paper_world_crew_count, f_h0_paper_world_crew_cell, f_h0_paper_world_crew_buckets, h0_paper_world_folk_listeners, h0_paper_world_folk_noises, h0_paper_world_folk_hushed, h0_paper_world_folk_hearsay, h0_paper_world_folk_wells, f_h0_paper_world_folk_column, f_h0_paper_world_folk_ear, f_h0_paper_world_folk_noiseColumn, f_h0_paper_world_folk_noiseLoud, f_h0_paper_world_folk_hearsayColumn, f_h0_paper_world_folk_hearsayLoud, f_h0_paper_world_folk_sounds, f_h0_paper_world_folk_wet, f_h0_paper_world_term, f_h0_paper_world_laws, h0_paper_diary_kept, h0_paper_diary_latest, f_h0_paper_diary_deed, f_h0_paper_diary_whose, f_h0_paper_diary_before, f_h0_paper_diary_bucketsBefore, f_h0_paper_diary_dayBefore, h0_asker_world, h0_asker_law, h0_asker_cell, h0_asker_shaft, h0_asker_kind, h0_asker_value, f_h0_asker_stack, h0_drawnCrew_count, f_h0_drawnCrew_cell, f_h0_drawnCrew_buckets)))))) else (if b ≤ 60 then (if h0_site_world_crew_count = 0 then (wp_X11_settle (-3) (f_h0_refusals) (fun (r_46 : Int32) => (un2 (fun (u_46_0 : Int32) (u_46_1 : Nat → Int32) => (Q r_46 (h0_drawnDay, u_46_0, u_46_1, h0_paper_world_lawCount, h0_paper_world_force, h0_paper_world_rock_dug, f_h0_paper_world_rock_kind, f_h0_paper_world_rock_hard, f_h0_paper_world_rock_water, h0_paper_world_crew_count, f_h0_paper_world_crew_cell, f_h0_paper_world_crew_buckets, h0_paper_world_folk_listeners, h0_paper_world_folk_noises, h0_paper_world_folk_hushed, h0_paper_world_folk_hearsay, h0_paper_world_folk_wells, f_h0_paper_world_folk_column, f_h0_paper_world_folk_ear, f_h0_paper_world_folk_noiseColumn, f_h0_paper_world_folk_noiseLoud, f_h0_paper_world_folk_hearsayColumn, f_h0_paper_world_folk_hearsayLoud, f_h0_paper_world_folk_sounds, f_h0_paper_world_folk_wet, f_h0_paper_world_term, f_h0_paper_world_laws, h0_paper_diary_kept, h0_paper_diary_latest, f_h0_paper_diary_deed, f_h0_paper_diary_whose, f_h0_paper_diary_before, f_h0_paper_diary_bucketsBefore, f_h0_paper_diary_dayBefore, h0_asker_world, h0_asker_law, h0_asker_cell, h0_asker_shaft, h0_asker_kind, h0_asker_value, f_h0_asker_stack, h0_drawnCrew_count, f_h0_drawnCrew_cell, f_h0_drawnCrew_buckets)))))) else (wp_X7_copyFrom h0_site_world_lawCount h0_site_world_force h0_site_world_rock_dug (f_h0_site_world_rock_kind) (f_h0_paper_world_rock_kind) (f_h0_site_world_rock_hard) (f_h0_paper_world_rock_hard) (f_h0_site_world_rock_water) (f_h0_paper_world_rock_water) h0_site_world_crew_count (f_h0_site_world_crew_cell) (f_h0_paper_world_crew_cell) (f_h0_site_world_crew_buckets) (f_h0_paper_world_crew_buckets) h0_site_world_folk_listeners h0_site_world_folk_noises h0_site_world_folk_hushed h0_site_world_folk_hearsay h0_site_world_folk_wells (f_h0_site_world_folk_column) (f_h0_paper_world_folk_column) (f_h0_site_world_folk_ear) (f_h0_paper_world_folk_ear) (f_h0_site_world_folk_noiseColumn) (f_h0_paper_world_folk_noiseColumn) (f_h0_site_world_folk_noiseLoud) (f_h0_paper_world_folk_noiseLoud) (f_h0_site_world_folk_hearsayColumn) (f_h0_paper_world_folk_hearsayColumn) (f_h0_site_world_folk_hearsayLoud) (f_h0_paper_world_folk_hearsayLoud) (f_h0_site_world_folk_sounds) (f_h0_paper_world_folk_sounds) (f_h0_site_world_folk_wet) (f_h0_paper_world_folk_wet) (f_h0_paper_world_term) (f_h0_site_world_term) (f_h0_site_world_laws) (f_h0_paper_world_laws) h0_site_diary_kept h0_site_diary_latest (f_h0_site_diary_deed) (f_h0_paper_diary_deed) (f_h0_site_diary_whose) (f_h0_paper_diary_whose) (f_h0_site_diary_before) (f_h0_paper_diary_before) (f_h0_site_diary_bucketsBefore) (f_h0_paper_diary_bucketsBefore) (f_h0_site_diary_dayBefore) (f_h0_paper_diary_dayBefore) (fun v => TT v ∨ v = t) (un31 (fun (u_58_0 : Int32) (u_58_1 : Int32) (u_58_2 : Int64) (u_58_3 : Nat → Int32) (u_58_4 : Nat → Int32) (u_58_5 : Nat → Int32) (u_58_6 : Int32) (u_58_7 : Nat → Int32) (u_58_8 : Nat → Int32) (u_58_9 : Int32) (u_58_10 : Int32) (u_58_11 : Int32) (u_58_12 : Int32) (u_58_13 : Int32) (u_58_14 : Nat → Int32) (u_58_15 : Nat → Int32) (u_58_16 : Nat → Int32) (u_58_17 : Nat → Int32) (u_58_18 : Nat → Int32) (u_58_19 : Nat → Int32) (u_58_20 : Nat → Int32) (u_58_21 : Nat → Int32) (u_58_22 : Nat → Int32) (u_58_23 : Nat → Option Nat) (u_58_24 : Int32) (u_58_25 : Int32) (u_58_26 : Nat → Int32) (u_58_27 : Nat → Int32) (u_58_28 : Nat → Int32) (u_58_29 : Nat → Int32) (u_58_30 : Nat → Int32) => (wp_X7_runSeasons_T a b h0_paper_world u_58_0 u_58_1 u_58_6 (u_58_7) (u_58_22) u_58_2 (u_58_3) (u_58_23) h0_asker_world h0_asker_law h0_asker_cell h0_asker_shaft h0_asker_kind h0_asker_done h0_asker_latest h0_asker_value t t_clauses t_length n_t_heads (f_t_heads) n_t_code (f_t_code) (f_h0_asker_stack) u_58_9 (u_58_14) (u_58_4) (u_58_5) (u_58_8) u_58_24 u_58_25 (u_58_26) (u_58_27) (u_58_28) (u_58_29) (u_58_30) (un19 (fun (u_67_0 : Nat → Int32) (u_67_1 : Nat → Int32) (u_67_2 : Int64) (u_67_3 : Value) (u_67_4 : Value) (u_67_5 : Int32) (u_67_6 : Int32) (u_67_7 : Int32) (u_67_8 : Int32) (u_67_9 : Nat → Int64) (u_67_10 : Nat → Int32) (u_67_11 : Nat → Int32) (u_67_12 : Int32) (u_67_13 : Int32) (u_67_14 : Nat → Int32) (u_67_15 : Nat → Int32) (u_67_16 : Nat → Int32) (u_67_17 : Nat → Int32) (u_67_18 : Nat → Int32) => (wp_X1_copyFrom u_58_6 (u_67_0) (f_h0_drawnCrew_cell) (u_67_11) (f_h0_drawnCrew_buckets) (un3 (fun (u_84_0 : Int32) (u_84_1 : Nat → Int32) (u_84_2 : Nat → Int32) => (wp_X1_allBuckets u_84_0 (u_84_2) (fun (r_108 : Int32) => (wp_X1_allBuckets h0_site_world_crew_count (f_h0_site_world_crew_buckets) (fun (r_121 : Int32) => (wp_X11_settle (r_108 - r_121) (f_h0_refusals) (fun (r_125 : Int32) => (un2 (fun (u_125_0 : Int32) (u_125_1 : Nat → Int32) => (Q r_125 ((u_67_1 (0 : Int32).toNatClampNeg), u_125_0, u_125_1, u_58_0, u_58_1, u_67_2, u_58_3, u_58_4, u_67_10, u_58_6, u_67_0, u_67_11, u_58_9, u_58_10, u_58_11, u_58_12, u_58_13, u_58_14, u_58_15, u_58_16, u_58_17, u_58_18, u_58_19, u_58_20, u_58_21, u_67_1, u_58_23, u_67_12, u_67_13, u_67_14, u_67_15, u_67_16, u_67_17, u_67_18, u_67_3, u_67_4, u_67_5, u_67_6, u_67_7, u_67_8, u_67_9, u_84_0, u_84_1, u_84_2)))))))))))))))))))) else (wp_X11_settle (-1) (f_h0_refusals) (fun (r_23 : Int32) => (un2 (fun (u_23_0 : Int32) (u_23_1 : Nat → Int32) => (Q r_23 (h0_drawnDay, u_23_0, u_23_1, h0_paper_world_lawCount, h0_paper_world_force, h0_paper_world_rock_dug, f_h0_paper_world_rock_kind, f_h0_paper_world_rock_hard, f_h0_paper_world_rock_water, h0_paper_world_crew_count, f_h0_paper_world_crew_cell, f_h0_paper_world_crew_buckets, h0_paper_world_folk_listeners, h0_paper_world_folk_noises, h0_paper_world_folk_hushed, h0_paper_world_folk_hearsay, h0_paper_world_folk_wells, f_h0_paper_world_folk_column, f_h0_paper_world_folk_ear, f_h0_paper_world_folk_noiseColumn, f_h0_paper_world_folk_noiseLoud, f_h0_paper_world_folk_hearsayColumn, f_h0_paper_world_folk_hearsayLoud, f_h0_paper_world_folk_sounds, f_h0_paper_world_folk_wet, f_h0_paper_world_term, f_h0_paper_world_laws, h0_paper_diary_kept, h0_paper_diary_latest, f_h0_paper_diary_deed, f_h0_paper_diary_whose, f_h0_paper_diary_before, f_h0_paper_diary_bucketsBefore, f_h0_paper_diary_dayBefore, h0_asker_world, h0_asker_law, h0_asker_cell, h0_asker_shaft, h0_asker_kind, h0_asker_value, f_h0_asker_stack, h0_drawnCrew_count, f_h0_drawnCrew_cell, f_h0_drawnCrew_buckets)))))))))))
end
section
theorem un31_i {α0 α1 α2 α3 α4 α5 α6 α7 α8 α9 α10 α11 α12 α13 α14 α15 α16 α17 α18 α19 α20 α21 α22 α23 α24 α25 α26 α27 α28 α29 α30 : Type} {f : α0 → α1 → α2 → α3 → α4 → α5 → α6 → α7 → α8 → α9 → α10 → α11 → α12 → α13 → α14 → α15 → α16 → α17 → α18 → α19 → α20 → α21 → α22 → α23 → α24 → α25 → α26 → α27 → α28 → α29 → α30 → Prop} {a0 : α0} {a1 : α1} {a2 : α2} {a3 : α3} {a4 : α4} {a5 : α5} {a6 : α6} {a7 : α7} {a8 : α8} {a9 : α9} {a10 : α10} {a11 : α11} {a12 : α12} {a13 : α13} {a14 : α14} {a15 : α15} {a16 : α16} {a17 : α17} {a18 : α18} {a19 : α19} {a20 : α20} {a21 : α21} {a22 : α22} {a23 : α23} {a24 : α24} {a25 : α25} {a26 : α26} {a27 : α27} {a28 : α28} {a29 : α29} {a30 : α30} (h : f a0 a1 a2 a3 a4 a5 a6 a7 a8 a9 a10 a11 a12 a13 a14 a15 a16 a17 a18 a19 a20 a21 a22 a23 a24 a25 a26 a27 a28 a29 a30) : un31 f (a0, a1, a2, a3, a4, a5, a6, a7, a8, a9, a10, a11, a12, a13, a14, a15, a16, a17, a18, a19, a20, a21, a22, a23, a24, a25, a26, a27, a28, a29, a30) := h
end
section
/-! plain numbers: what the wants (wp_) ask, by omega -/
theorem br1 {c A B : Prop} {d : Decidable c} (hc : c) (h : A) : @ite Prop c d A B := by rw [if_pos hc]; exact h
theorem br0 {c A B : Prop} {d : Decidable c} (hc : ¬ c) (h : B) : @ite Prop c d A B := by rw [if_neg hc]; exact h
theorem lt_z {a b : Int32} {x y : Int} (ha : a.toInt = x) (hb : b.toInt = y) (h : a < b) : x < y := by rw [← ha, ← hb]; exact Int32.lt_iff_toInt_lt.mp h
theorem nlt_z {a b : Int32} {x y : Int} (ha : a.toInt = x) (hb : b.toInt = y) (h : ¬ a < b) : y ≤ x := by rw [← ha, ← hb]; exact Int.not_lt.mp (fun q => h (Int32.lt_iff_toInt_lt.mpr q))
theorem le_z {a b : Int32} {x y : Int} (ha : a.toInt = x) (hb : b.toInt = y) (h : a ≤ b) : x ≤ y := by rw [← ha, ← hb]; exact Int32.le_iff_toInt_le.mp h
theorem nle_z {a b : Int32} {x y : Int} (ha : a.toInt = x) (hb : b.toInt = y) (h : ¬ a ≤ b) : y < x := by rw [← ha, ← hb]; exact Int.not_le.mp (fun q => h (Int32.le_iff_toInt_le.mpr q))
theorem eq_z {a b : Int32} {x y : Int} (ha : a.toInt = x) (hb : b.toInt = y) (h : a = b) : x = y := by rw [← ha, ← hb, h]
theorem ne_z {a b : Int32} {x y : Int} (ha : a.toInt = x) (hb : b.toInt = y) (h : ¬ a = b) : ¬ x = y := by rw [← ha, ← hb]; exact fun q => h (Int32.toInt_inj.mp q)
theorem z_lt {a b : Int32} {x y : Int} (ha : a.toInt = x) (hb : b.toInt = y) (h : x < y) : a < b := Int32.lt_iff_toInt_lt.mpr (by rw [ha, hb]; exact h)
theorem z_nlt {a b : Int32} {x y : Int} (ha : a.toInt = x) (hb : b.toInt = y) (h : y ≤ x) : ¬ a < b := fun q => by have := lt_z ha hb q; omega
theorem z_le {a b : Int32} {x y : Int} (ha : a.toInt = x) (hb : b.toInt = y) (h : x ≤ y) : a ≤ b := Int32.le_iff_toInt_le.mpr (by rw [ha, hb]; exact h)
theorem z_nle {a b : Int32} {x y : Int} (ha : a.toInt = x) (hb : b.toInt = y) (h : y < x) : ¬ a ≤ b := fun q => by have := le_z ha hb q; omega
theorem z_eq {a b : Int32} {x y : Int} (ha : a.toInt = x) (hb : b.toInt = y) (h : x = y) : a = b := Int32.toInt_inj.mp (by rw [ha, hb]; exact h)
theorem z_ne {a b : Int32} {x y : Int} (ha : a.toInt = x) (hb : b.toInt = y) (h : ¬ x = y) : ¬ a = b := fun q => h (eq_z ha hb q)
theorem i32_lo (a : Int32) : -2147483648 ≤ a.toInt := Int32.le_toInt a
theorem i32_hi (a : Int32) : a.toInt ≤ 2147483647 := by have := Int32.toInt_lt a; omega
theorem i64_hi (a : Int64) : a.toInt ≤ 9223372036854775807 := by have := Int64.toInt_lt a; omega
theorem bm32 {x : Int} (h1 : -2147483648 ≤ x) (h2 : x ≤ 2147483647) : x.bmod (2 ^ 32) = x := by
  rw [Int.bmod_eq_of_le] <;> omega
theorem bm64 {x : Int} (h1 : -9223372036854775808 ≤ x) (h2 : x ≤ 9223372036854775807) : x.bmod (2 ^ 64) = x := by
  rw [Int.bmod_eq_of_le] <;> omega
theorem add_z {a b : Int32} {x y : Int} (ha : a.toInt = x) (hb : b.toInt = y) (h1 : -2147483648 ≤ x + y) (h2 : x + y ≤ 2147483647) : (a + b).toInt = x + y := by rw [Int32.toInt_add, ha, hb]; exact bm32 h1 h2
theorem sub_z {a b : Int32} {x y : Int} (ha : a.toInt = x) (hb : b.toInt = y) (h1 : -2147483648 ≤ x - y) (h2 : x - y ≤ 2147483647) : (a - b).toInt = x - y := by rw [Int32.toInt_sub, ha, hb]; exact bm32 h1 h2
theorem mul_z {a b : Int32} {x y : Int} (ha : a.toInt = x) (hb : b.toInt = y) (h1 : -2147483648 ≤ x * y) (h2 : x * y ≤ 2147483647) : (a * b).toInt = x * y := by rw [Int32.toInt_mul, ha, hb]; exact bm32 h1 h2
theorem neg_z {a : Int32} {x : Int} (ha : a.toInt = x) (h1 : -2147483648 ≤ -x) (h2 : -x ≤ 2147483647) : (-a).toInt = -x := by rw [Int32.toInt_neg, ha]; exact bm32 h1 h2
theorem div_z {a b : Int32} {x y : Int} (ha : a.toInt = x) (hb : b.toInt = y) (h0 : 0 ≤ x) (h1 : 0 < y) : (a / b).toInt = x / y := by
  have q : x / y ≤ x := Int.ediv_le_self _ h0
  have q0 : 0 ≤ x / y := Int.ediv_nonneg h0 (by omega)
  have q2 := i32_hi a
  rw [Int32.toInt_div, ha, hb, Int.tdiv_eq_ediv_of_nonneg h0]
  exact bm32 (by omega) (by omega)
theorem rem_z {a b : Int32} {x y : Int} (ha : a.toInt = x) (hb : b.toInt = y) (h0 : 0 ≤ x) (h1 : 0 < y) : (a - a / b * b).toInt = x % y := by
  have q2 := i32_hi a
  have d := div_z ha hb h0 h1
  have q0 : 0 ≤ x / y := Int.ediv_nonneg h0 (by omega)
  have e : x / y * y + x % y = x := Int.ediv_mul_add_emod x y
  have q4 : 0 ≤ x % y := Int.emod_nonneg x (by omega)
  have q5 : 0 ≤ x / y * y := Int.mul_nonneg q0 (by omega)
  have m := mul_z (a := a / b) (b := b) d hb (by omega) (by omega)
  rw [sub_z ha m (by omega) (by omega)]
  omega
theorem vpi {i : Int32} {n : Nat} {x : Int} (h : i.toInt = x) (h0 : 0 ≤ x) (h1 : x < n) : vp_in i n := by
  rintro (q | q)
  · have := lt_z (y := 0) h rfl q
    omega
  · have e : i.toNatClampNeg = i.toInt.toNat := rfl
    omega
theorem tnz {i : Int32} {x : Int} (h : i.toInt = x) (h0 : 0 ≤ x) : (i.toNatClampNeg : Int) = x := by
  have e : i.toNatClampNeg = i.toInt.toNat := rfl
  omega
theorem i2l_z {a : Int32} {x : Int} (h : a.toInt = x) : a.toInt64.toInt = x := by rw [Int32.toInt_toInt64]; exact h
theorem ladd_z {a b : Int64} {x y : Int} (ha : a.toInt = x) (hb : b.toInt = y) (h1 : -9223372036854775808 ≤ x + y) (h2 : x + y ≤ 9223372036854775807) : (a + b).toInt = x + y := by rw [Int64.toInt_add, ha, hb]; exact bm64 h1 h2
theorem lsub_z {a b : Int64} {x y : Int} (ha : a.toInt = x) (hb : b.toInt = y) (h1 : -9223372036854775808 ≤ x - y) (h2 : x - y ≤ 9223372036854775807) : (a - b).toInt = x - y := by rw [Int64.toInt_sub, ha, hb]; exact bm64 h1 h2
theorem lmul_z {a b : Int64} {x y : Int} (ha : a.toInt = x) (hb : b.toInt = y) (h1 : -9223372036854775808 ≤ x * y) (h2 : x * y ≤ 9223372036854775807) : (a * b).toInt = x * y := by rw [Int64.toInt_mul, ha, hb]; exact bm64 h1 h2
theorem l2i_z {a : Int64} {x : Int} (ha : a.toInt = x) (h1 : -2147483648 ≤ x) (h2 : x ≤ 2147483647) : a.toInt32.toInt = x := by rw [Int64.toInt_toInt32, ha]; exact bm32 h1 h2
theorem cmp_lt {a b : Int64} : lg_cmp a b < 0 ↔ a.toInt < b.toInt := by
  unfold lg_cmp
  by_cases h : a > b
  · rw [if_pos h]
    have h2 : b.toInt < a.toInt := Int64.lt_iff_toInt_lt.mp h
    constructor
    · intro q; exact absurd q (by decide)
    · intro q; omega
  · rw [if_neg h]
    have h2 : ¬ b.toInt < a.toInt := fun q => h (Int64.lt_iff_toInt_lt.mpr q)
    by_cases e : a = b
    · rw [if_pos e]
      constructor
      · intro q; exact absurd q (by decide)
      · intro q; rw [e] at q; omega
    · rw [if_neg e]
      have h3 : ¬ a.toInt = b.toInt := fun q => e (Int64.toInt_inj.mp q)
      constructor
      · intro _; omega
      · intro _; decide
theorem cmp_gt {a b : Int64} : 0 < lg_cmp a b ↔ b.toInt < a.toInt := by
  unfold lg_cmp
  by_cases h : a > b
  · rw [if_pos h]
    have h2 : b.toInt < a.toInt := Int64.lt_iff_toInt_lt.mp h
    exact ⟨fun _ => h2, fun _ => by decide⟩
  · rw [if_neg h]
    have h2 : ¬ b.toInt < a.toInt := fun q => h (Int64.lt_iff_toInt_lt.mpr q)
    by_cases e : a = b
    · rw [if_pos e]
      exact ⟨fun q => absurd q (by decide), fun q => absurd q h2⟩
    · rw [if_neg e]
      exact ⟨fun q => absurd q (by decide), fun q => absurd q h2⟩
theorem cmp_eq {a b : Int64} : lg_cmp a b = 0 ↔ a.toInt = b.toInt := by
  unfold lg_cmp
  by_cases h : a > b
  · rw [if_pos h]
    have h2 : b.toInt < a.toInt := Int64.lt_iff_toInt_lt.mp h
    exact ⟨fun q => absurd q (by decide), fun q => by omega⟩
  · rw [if_neg h]
    by_cases e : a = b
    · rw [if_pos e]
      exact ⟨fun _ => by rw [e], fun _ => rfl⟩
    · rw [if_neg e]
      exact ⟨fun q => absurd q (by decide), fun q => absurd (Int64.toInt_inj.mp q) e⟩
theorem c_lt {a b : Int64} {x y : Int} (ha : a.toInt = x) (hb : b.toInt = y) (h : lg_cmp a b < 0) : x < y := by rw [← ha, ← hb]; exact cmp_lt.mp h
theorem c_nlt {a b : Int64} {x y : Int} (ha : a.toInt = x) (hb : b.toInt = y) (h : ¬ lg_cmp a b < 0) : y ≤ x := by rw [← ha, ← hb]; exact Int.not_lt.mp (fun q => h (cmp_lt.mpr q))
theorem c_ge {a b : Int64} {x y : Int} (ha : a.toInt = x) (hb : b.toInt = y) (h : 0 ≤ lg_cmp a b) : y ≤ x := c_nlt ha hb (fun q => by have h1 := Int32.le_iff_toInt_le.mp h; have h2 := Int32.lt_iff_toInt_lt.mp q; omega)
theorem c_nge {a b : Int64} {x y : Int} (ha : a.toInt = x) (hb : b.toInt = y) (h : ¬ 0 ≤ lg_cmp a b) : x < y := c_lt ha hb (Int32.lt_iff_toInt_lt.mpr (Int.not_le.mp (fun q => h (Int32.le_iff_toInt_le.mpr q))))
theorem c_gt {a b : Int64} {x y : Int} (ha : a.toInt = x) (hb : b.toInt = y) (h : 0 < lg_cmp a b) : y < x := by rw [← ha, ← hb]; exact cmp_gt.mp h
theorem c_ngt {a b : Int64} {x y : Int} (ha : a.toInt = x) (hb : b.toInt = y) (h : ¬ 0 < lg_cmp a b) : x ≤ y := by rw [← ha, ← hb]; exact Int.not_lt.mp (fun q => h (cmp_gt.mpr q))
theorem c_le {a b : Int64} {x y : Int} (ha : a.toInt = x) (hb : b.toInt = y) (h : lg_cmp a b ≤ 0) : x ≤ y := c_ngt ha hb (fun q => by have h1 := Int32.le_iff_toInt_le.mp h; have h2 := Int32.lt_iff_toInt_lt.mp q; omega)
theorem c_nle {a b : Int64} {x y : Int} (ha : a.toInt = x) (hb : b.toInt = y) (h : ¬ lg_cmp a b ≤ 0) : y < x := c_gt ha hb (Int32.lt_iff_toInt_lt.mpr (Int.not_le.mp (fun q => h (Int32.le_iff_toInt_le.mpr q))))
theorem c_eq {a b : Int64} {x y : Int} (ha : a.toInt = x) (hb : b.toInt = y) (h : lg_cmp a b = 0) : x = y := by rw [← ha, ← hb]; exact cmp_eq.mp h
theorem c_ne {a b : Int64} {x y : Int} (ha : a.toInt = x) (hb : b.toInt = y) (h : ¬ lg_cmp a b = 0) : ¬ x = y := by rw [← ha, ← hb]; exact fun q => h (cmp_eq.mpr q)
section UI
theorem un2_i {α0 α1 : Type} {f : α0 → α1 → Prop} {a0 : α0} {a1 : α1} (h : f a0 a1) : un2 f (a0, a1) := h
theorem un3_i {α0 α1 α2 : Type} {f : α0 → α1 → α2 → Prop} {a0 : α0} {a1 : α1} {a2 : α2} (h : f a0 a1 a2) : un3 f (a0, a1, a2) := h
theorem un4_i {α0 α1 α2 α3 : Type} {f : α0 → α1 → α2 → α3 → Prop} {a0 : α0} {a1 : α1} {a2 : α2} {a3 : α3} (h : f a0 a1 a2 a3) : un4 f (a0, a1, a2, a3) := h
theorem jn4_i {α0 α1 α2 α3 : Type} {f : α0 → α1 → α2 → α3 → Prop} {F : (α0 × α1 × α2 × α3 → Prop) → Prop} (I : α0 → α1 → α2 → α3 → Prop) (a : ∀ a0 a1 a2 a3, I a0 a1 a2 a3 → f a0 a1 a2 a3) (b : ∀ z : (α0 × α1 × α2 × α3 → Prop), (∀ a0 a1 a2 a3, I a0 a1 a2 a3 → z (a0, a1, a2, a3)) → F z) : jn (un4 f) F := b _ (fun a0 a1 a2 a3 h => a a0 a1 a2 a3 h)
theorem un5_i {α0 α1 α2 α3 α4 : Type} {f : α0 → α1 → α2 → α3 → α4 → Prop} {a0 : α0} {a1 : α1} {a2 : α2} {a3 : α3} {a4 : α4} (h : f a0 a1 a2 a3 a4) : un5 f (a0, a1, a2, a3, a4) := h
theorem un6_i {α0 α1 α2 α3 α4 α5 : Type} {f : α0 → α1 → α2 → α3 → α4 → α5 → Prop} {a0 : α0} {a1 : α1} {a2 : α2} {a3 : α3} {a4 : α4} {a5 : α5} (h : f a0 a1 a2 a3 a4 a5) : un6 f (a0, a1, a2, a3, a4, a5) := h
theorem jn6_i {α0 α1 α2 α3 α4 α5 : Type} {f : α0 → α1 → α2 → α3 → α4 → α5 → Prop} {F : (α0 × α1 × α2 × α3 × α4 × α5 → Prop) → Prop} (I : α0 → α1 → α2 → α3 → α4 → α5 → Prop) (a : ∀ a0 a1 a2 a3 a4 a5, I a0 a1 a2 a3 a4 a5 → f a0 a1 a2 a3 a4 a5) (b : ∀ z : (α0 × α1 × α2 × α3 × α4 × α5 → Prop), (∀ a0 a1 a2 a3 a4 a5, I a0 a1 a2 a3 a4 a5 → z (a0, a1, a2, a3, a4, a5)) → F z) : jn (un6 f) F := b _ (fun a0 a1 a2 a3 a4 a5 h => a a0 a1 a2 a3 a4 a5 h)
theorem un7_i {α0 α1 α2 α3 α4 α5 α6 : Type} {f : α0 → α1 → α2 → α3 → α4 → α5 → α6 → Prop} {a0 : α0} {a1 : α1} {a2 : α2} {a3 : α3} {a4 : α4} {a5 : α5} {a6 : α6} (h : f a0 a1 a2 a3 a4 a5 a6) : un7 f (a0, a1, a2, a3, a4, a5, a6) := h
theorem un8_i {α0 α1 α2 α3 α4 α5 α6 α7 : Type} {f : α0 → α1 → α2 → α3 → α4 → α5 → α6 → α7 → Prop} {a0 : α0} {a1 : α1} {a2 : α2} {a3 : α3} {a4 : α4} {a5 : α5} {a6 : α6} {a7 : α7} (h : f a0 a1 a2 a3 a4 a5 a6 a7) : un8 f (a0, a1, a2, a3, a4, a5, a6, a7) := h
theorem un9_i {α0 α1 α2 α3 α4 α5 α6 α7 α8 : Type} {f : α0 → α1 → α2 → α3 → α4 → α5 → α6 → α7 → α8 → Prop} {a0 : α0} {a1 : α1} {a2 : α2} {a3 : α3} {a4 : α4} {a5 : α5} {a6 : α6} {a7 : α7} {a8 : α8} (h : f a0 a1 a2 a3 a4 a5 a6 a7 a8) : un9 f (a0, a1, a2, a3, a4, a5, a6, a7, a8) := h
theorem un10_i {α0 α1 α2 α3 α4 α5 α6 α7 α8 α9 : Type} {f : α0 → α1 → α2 → α3 → α4 → α5 → α6 → α7 → α8 → α9 → Prop} {a0 : α0} {a1 : α1} {a2 : α2} {a3 : α3} {a4 : α4} {a5 : α5} {a6 : α6} {a7 : α7} {a8 : α8} {a9 : α9} (h : f a0 a1 a2 a3 a4 a5 a6 a7 a8 a9) : un10 f (a0, a1, a2, a3, a4, a5, a6, a7, a8, a9) := h
theorem un11_i {α0 α1 α2 α3 α4 α5 α6 α7 α8 α9 α10 : Type} {f : α0 → α1 → α2 → α3 → α4 → α5 → α6 → α7 → α8 → α9 → α10 → Prop} {a0 : α0} {a1 : α1} {a2 : α2} {a3 : α3} {a4 : α4} {a5 : α5} {a6 : α6} {a7 : α7} {a8 : α8} {a9 : α9} {a10 : α10} (h : f a0 a1 a2 a3 a4 a5 a6 a7 a8 a9 a10) : un11 f (a0, a1, a2, a3, a4, a5, a6, a7, a8, a9, a10) := h
theorem un12_i {α0 α1 α2 α3 α4 α5 α6 α7 α8 α9 α10 α11 : Type} {f : α0 → α1 → α2 → α3 → α4 → α5 → α6 → α7 → α8 → α9 → α10 → α11 → Prop} {a0 : α0} {a1 : α1} {a2 : α2} {a3 : α3} {a4 : α4} {a5 : α5} {a6 : α6} {a7 : α7} {a8 : α8} {a9 : α9} {a10 : α10} {a11 : α11} (h : f a0 a1 a2 a3 a4 a5 a6 a7 a8 a9 a10 a11) : un12 f (a0, a1, a2, a3, a4, a5, a6, a7, a8, a9, a10, a11) := h
theorem un13_i {α0 α1 α2 α3 α4 α5 α6 α7 α8 α9 α10 α11 α12 : Type} {f : α0 → α1 → α2 → α3 → α4 → α5 → α6 → α7 → α8 → α9 → α10 → α11 → α12 → Prop} {a0 : α0} {a1 : α1} {a2 : α2} {a3 : α3} {a4 : α4} {a5 : α5} {a6 : α6} {a7 : α7} {a8 : α8} {a9 : α9} {a10 : α10} {a11 : α11} {a12 : α12} (h : f a0 a1 a2 a3 a4 a5 a6 a7 a8 a9 a10 a11 a12) : un13 f (a0, a1, a2, a3, a4, a5, a6, a7, a8, a9, a10, a11, a12) := h
theorem un14_i {α0 α1 α2 α3 α4 α5 α6 α7 α8 α9 α10 α11 α12 α13 : Type} {f : α0 → α1 → α2 → α3 → α4 → α5 → α6 → α7 → α8 → α9 → α10 → α11 → α12 → α13 → Prop} {a0 : α0} {a1 : α1} {a2 : α2} {a3 : α3} {a4 : α4} {a5 : α5} {a6 : α6} {a7 : α7} {a8 : α8} {a9 : α9} {a10 : α10} {a11 : α11} {a12 : α12} {a13 : α13} (h : f a0 a1 a2 a3 a4 a5 a6 a7 a8 a9 a10 a11 a12 a13) : un14 f (a0, a1, a2, a3, a4, a5, a6, a7, a8, a9, a10, a11, a12, a13) := h
theorem un15_i {α0 α1 α2 α3 α4 α5 α6 α7 α8 α9 α10 α11 α12 α13 α14 : Type} {f : α0 → α1 → α2 → α3 → α4 → α5 → α6 → α7 → α8 → α9 → α10 → α11 → α12 → α13 → α14 → Prop} {a0 : α0} {a1 : α1} {a2 : α2} {a3 : α3} {a4 : α4} {a5 : α5} {a6 : α6} {a7 : α7} {a8 : α8} {a9 : α9} {a10 : α10} {a11 : α11} {a12 : α12} {a13 : α13} {a14 : α14} (h : f a0 a1 a2 a3 a4 a5 a6 a7 a8 a9 a10 a11 a12 a13 a14) : un15 f (a0, a1, a2, a3, a4, a5, a6, a7, a8, a9, a10, a11, a12, a13, a14) := h
theorem un16_i {α0 α1 α2 α3 α4 α5 α6 α7 α8 α9 α10 α11 α12 α13 α14 α15 : Type} {f : α0 → α1 → α2 → α3 → α4 → α5 → α6 → α7 → α8 → α9 → α10 → α11 → α12 → α13 → α14 → α15 → Prop} {a0 : α0} {a1 : α1} {a2 : α2} {a3 : α3} {a4 : α4} {a5 : α5} {a6 : α6} {a7 : α7} {a8 : α8} {a9 : α9} {a10 : α10} {a11 : α11} {a12 : α12} {a13 : α13} {a14 : α14} {a15 : α15} (h : f a0 a1 a2 a3 a4 a5 a6 a7 a8 a9 a10 a11 a12 a13 a14 a15) : un16 f (a0, a1, a2, a3, a4, a5, a6, a7, a8, a9, a10, a11, a12, a13, a14, a15) := h
theorem un17_i {α0 α1 α2 α3 α4 α5 α6 α7 α8 α9 α10 α11 α12 α13 α14 α15 α16 : Type} {f : α0 → α1 → α2 → α3 → α4 → α5 → α6 → α7 → α8 → α9 → α10 → α11 → α12 → α13 → α14 → α15 → α16 → Prop} {a0 : α0} {a1 : α1} {a2 : α2} {a3 : α3} {a4 : α4} {a5 : α5} {a6 : α6} {a7 : α7} {a8 : α8} {a9 : α9} {a10 : α10} {a11 : α11} {a12 : α12} {a13 : α13} {a14 : α14} {a15 : α15} {a16 : α16} (h : f a0 a1 a2 a3 a4 a5 a6 a7 a8 a9 a10 a11 a12 a13 a14 a15 a16) : un17 f (a0, a1, a2, a3, a4, a5, a6, a7, a8, a9, a10, a11, a12, a13, a14, a15, a16) := h
theorem un19_i {α0 α1 α2 α3 α4 α5 α6 α7 α8 α9 α10 α11 α12 α13 α14 α15 α16 α17 α18 : Type} {f : α0 → α1 → α2 → α3 → α4 → α5 → α6 → α7 → α8 → α9 → α10 → α11 → α12 → α13 → α14 → α15 → α16 → α17 → α18 → Prop} {a0 : α0} {a1 : α1} {a2 : α2} {a3 : α3} {a4 : α4} {a5 : α5} {a6 : α6} {a7 : α7} {a8 : α8} {a9 : α9} {a10 : α10} {a11 : α11} {a12 : α12} {a13 : α13} {a14 : α14} {a15 : α15} {a16 : α16} {a17 : α17} {a18 : α18} (h : f a0 a1 a2 a3 a4 a5 a6 a7 a8 a9 a10 a11 a12 a13 a14 a15 a16 a17 a18) : un19 f (a0, a1, a2, a3, a4, a5, a6, a7, a8, a9, a10, a11, a12, a13, a14, a15, a16, a17, a18) := h
theorem un22_i {α0 α1 α2 α3 α4 α5 α6 α7 α8 α9 α10 α11 α12 α13 α14 α15 α16 α17 α18 α19 α20 α21 : Type} {f : α0 → α1 → α2 → α3 → α4 → α5 → α6 → α7 → α8 → α9 → α10 → α11 → α12 → α13 → α14 → α15 → α16 → α17 → α18 → α19 → α20 → α21 → Prop} {a0 : α0} {a1 : α1} {a2 : α2} {a3 : α3} {a4 : α4} {a5 : α5} {a6 : α6} {a7 : α7} {a8 : α8} {a9 : α9} {a10 : α10} {a11 : α11} {a12 : α12} {a13 : α13} {a14 : α14} {a15 : α15} {a16 : α16} {a17 : α17} {a18 : α18} {a19 : α19} {a20 : α20} {a21 : α21} (h : f a0 a1 a2 a3 a4 a5 a6 a7 a8 a9 a10 a11 a12 a13 a14 a15 a16 a17 a18 a19 a20 a21) : un22 f (a0, a1, a2, a3, a4, a5, a6, a7, a8, a9, a10, a11, a12, a13, a14, a15, a16, a17, a18, a19, a20, a21) := h
theorem un24_i {α0 α1 α2 α3 α4 α5 α6 α7 α8 α9 α10 α11 α12 α13 α14 α15 α16 α17 α18 α19 α20 α21 α22 α23 : Type} {f : α0 → α1 → α2 → α3 → α4 → α5 → α6 → α7 → α8 → α9 → α10 → α11 → α12 → α13 → α14 → α15 → α16 → α17 → α18 → α19 → α20 → α21 → α22 → α23 → Prop} {a0 : α0} {a1 : α1} {a2 : α2} {a3 : α3} {a4 : α4} {a5 : α5} {a6 : α6} {a7 : α7} {a8 : α8} {a9 : α9} {a10 : α10} {a11 : α11} {a12 : α12} {a13 : α13} {a14 : α14} {a15 : α15} {a16 : α16} {a17 : α17} {a18 : α18} {a19 : α19} {a20 : α20} {a21 : α21} {a22 : α22} {a23 : α23} (h : f a0 a1 a2 a3 a4 a5 a6 a7 a8 a9 a10 a11 a12 a13 a14 a15 a16 a17 a18 a19 a20 a21 a22 a23) : un24 f (a0, a1, a2, a3, a4, a5, a6, a7, a8, a9, a10, a11, a12, a13, a14, a15, a16, a17, a18, a19, a20, a21, a22, a23) := h
theorem un25_i {α0 α1 α2 α3 α4 α5 α6 α7 α8 α9 α10 α11 α12 α13 α14 α15 α16 α17 α18 α19 α20 α21 α22 α23 α24 : Type} {f : α0 → α1 → α2 → α3 → α4 → α5 → α6 → α7 → α8 → α9 → α10 → α11 → α12 → α13 → α14 → α15 → α16 → α17 → α18 → α19 → α20 → α21 → α22 → α23 → α24 → Prop} {a0 : α0} {a1 : α1} {a2 : α2} {a3 : α3} {a4 : α4} {a5 : α5} {a6 : α6} {a7 : α7} {a8 : α8} {a9 : α9} {a10 : α10} {a11 : α11} {a12 : α12} {a13 : α13} {a14 : α14} {a15 : α15} {a16 : α16} {a17 : α17} {a18 : α18} {a19 : α19} {a20 : α20} {a21 : α21} {a22 : α22} {a23 : α23} {a24 : α24} (h : f a0 a1 a2 a3 a4 a5 a6 a7 a8 a9 a10 a11 a12 a13 a14 a15 a16 a17 a18 a19 a20 a21 a22 a23 a24) : un25 f (a0, a1, a2, a3, a4, a5, a6, a7, a8, a9, a10, a11, a12, a13, a14, a15, a16, a17, a18, a19, a20, a21, a22, a23, a24) := h
theorem jn1_i {α : Type} {f : α → Prop} {F : (α → Prop) → Prop} (I : α → Prop) (a : ∀ y, I y → f y) (b : ∀ z : (α → Prop), (∀ y, I y → z y) → F z) : jn f F := b _ a
end UI
theorem z01 {a : Int32} {x : Int} (h : a.toInt = x) (h0 : 0 ≤ x) (h1 : x ≤ 1) : a = 0 ∨ a = 1 := by
  by_cases e : x = 0
  · exact Or.inl (z_eq h rfl e)
  · exact Or.inr (z_eq (y := 1) h rfl (by omega))
theorem jn_s {α : Type} {k : α} {F : α → Prop} (h : F k) : jn k F := h
theorem ne_n {j k : Nat} {x y : Int} (h1 : (j : Int) = x) (h2 : (k : Int) = y) (h : ¬ x = y) : j ≠ k := by omega
theorem nn_i (a : Int32) (h : 0 ≤ a.toInt) : a.toInt = (a.toBitVec.toNat : Int) := by
  have e : a.toInt = a.toBitVec.toInt := rfl
  rw [e] at h ⊢
  rw [BitVec.toInt_eq_toNat_cond] at h ⊢
  split
  · rfl
  · rename_i q
    rw [if_neg q] at h
    have := a.toBitVec.isLt
    omega
theorem and_z {a b : Int32} (hb : 0 ≤ b.toInt) : 0 ≤ (a &&& b).toInt ∧ (a &&& b).toInt ≤ b.toInt := by
  have h1 := nn_i b hb
  have h2 : (a &&& b).toBitVec.toNat ≤ b.toBitVec.toNat := by
    rw [Int32.toBitVec_and, BitVec.toNat_and]
    exact Nat.and_le_right
  have h3 := i32_hi b
  have e : (a &&& b).toInt = (a &&& b).toBitVec.toInt := rfl
  rw [e, BitVec.toInt_eq_toNat_cond]
  split <;> omega
theorem mul_b {a b : Int32} {x y X Y : Int} (ha : a.toInt = x) (hb : b.toInt = y) (h1 : 0 ≤ x) (h2 : x ≤ X) (h3 : 0 ≤ y) (h4 : y ≤ Y) (h5 : X * Y ≤ 2147483647) : 0 ≤ (a * b).toInt ∧ (a * b).toInt ≤ X * Y := by
  have q1 : x * y ≤ X * Y := Int.mul_le_mul h2 h4 h3 (by omega)
  have q0 : 0 ≤ x * y := Int.mul_nonneg h1 h3
  rw [mul_z ha hb (by omega) (by omega)]
  exact ⟨q0, q1⟩
theorem k_nlt {a b : Int64} {x y : Int} (ha : a.toInt = x) (hb : b.toInt = y) (h : y ≤ x) : ¬ lg_cmp a b < 0 := fun q => by have := c_lt ha hb q; omega
theorem k_ngt {a b : Int64} {x y : Int} (ha : a.toInt = x) (hb : b.toInt = y) (h : x ≤ y) : ¬ 0 < lg_cmp a b := fun q => by have := c_gt ha hb q; omega
theorem k_ge {a b : Int64} {x y : Int} (ha : a.toInt = x) (hb : b.toInt = y) (h : y ≤ x) : 0 ≤ lg_cmp a b := Int32.le_iff_toInt_le.mpr (Int.not_lt.mp (fun q => k_nlt ha hb h (Int32.lt_iff_toInt_lt.mpr q)))
theorem k_nge {a b : Int64} {x y : Int} (ha : a.toInt = x) (hb : b.toInt = y) (h : x < y) : ¬ 0 ≤ lg_cmp a b := fun q => by have := c_ge ha hb q; omega
theorem z_neL {a : Int64} {x : Int} (ha : a.toInt = x) (h : ¬ x = 0) : ¬ a = 0 := fun q => h (by rw [← ha, q]; rfl)
end
section
/-! the reference₉s row: ranges, and its laws -/
/-- one step of a code: how high the pile stands ahead of it and behind it -/
def ST (op ar : Nat → Int32) (ht : Nat → Nat) (b i : Nat) : Prop :=
  (0 ≤ (op i).toInt ∧ (op i).toInt ≤ 9 ∧ ht (i + 1) = ht i + 1) ∨
  (20 ≤ (op i).toInt ∧ (op i).toInt ≤ 27 ∧ 2 ≤ ht i ∧ ht (i + 1) + 1 = ht i) ∨
  ((op i).toInt = 28 ∧ 1 ≤ ht i ∧ ht (i + 1) = ht i) ∨
  (29 ≤ (op i).toInt ∧ (op i).toInt ≤ 30 ∧ 1 ≤ ht i ∧ ht (i + 1) + 1 = ht i ∧ ∃ j : Nat, (ar i).toInt = (j : Int) ∧ i < j ∧ j ≤ b ∧ ht j = ht i)
/-- a code that can be reckoned -/
def SG (op ar : Nat → Int32) (a b : Nat) : Prop := ∃ ht : Nat → Nat, ht a = 0 ∧ ∀ i, a ≤ i → i < b → ST op ar ht b i
/-- a clause whose head stands at k, its code at c -/
def CW (f : Nat → Int32) (k c : Nat) : Prop := ∃ p3 p4 p5 p6 : Nat, (f (k + 3)).toInt = (p3 : Int) ∧ (f (k + 4)).toInt = (p4 : Int) ∧ (f (k + 5)).toInt = (p5 : Int) ∧ (f (k + 6)).toInt = (p6 : Int) ∧ p4 ≤ 400 ∧ p6 ≤ 400 ∧ p3 ≤ p4 ∧ p5 ≤ p6 ∧ SG (fun i => f (c + 2 * i)) (fun i => f (c + 2 * i + 1)) p3 p4 ∧ SG (fun i => f (c + 2 * i)) (fun i => f (c + 2 * i + 1)) p5 p6
def LW (f : Nat → Int32) : Prop := ∀ m : Nat, m < 6 → (f (251 + 900 * m)).toInt ≤ 12 ∧ ∀ c : Nat, (c : Int) < (f (251 + 900 * m)).toInt → CW f (252 + 900 * m + 8 * c) (348 + 900 * m)
theorem LW.up {f : Nat → Int32} (h : LW f) {n : Nat} {v : Int32} (hn : n < 250) : LW (upd f n v) := by
  have e : ∀ k : Nat, 250 ≤ k → upd f n v k = f k := fun k hk => pk_un (by omega)
  intro m hm
  obtain ⟨h1, h2⟩ := h m hm
  rw [e _ (by omega)]
  refine ⟨h1, fun c hc => ?_⟩
  obtain ⟨p3, p4, p5, p6, q3, q4, q5, q6, q7, q8, q9, q10, s1, s2⟩ := h2 c hc
  have eo : (fun i => upd f n v (348 + 900 * m + 2 * i)) = (fun i => f (348 + 900 * m + 2 * i)) := funext fun i => e _ (by omega)
  have ea : (fun i => upd f n v (348 + 900 * m + 2 * i + 1)) = (fun i => f (348 + 900 * m + 2 * i + 1)) := funext fun i => e _ (by omega)
  refine ⟨p3, p4, p5, p6, ?_, ?_, ?_, ?_, q7, q8, q9, q10, ?_, ?_⟩
  · rw [e _ (by omega)]; exact q3
  · rw [e _ (by omega)]; exact q4
  · rw [e _ (by omega)]; exact q5
  · rw [e _ (by omega)]; exact q6
  · rw [eo, ea]; exact s1
  · rw [eo, ea]; exact s2
end
section
def RWT : List (Nat × Nat × Int × Int) := [(0, 1, 0, 6), (1, 2, 0, 5), (2, 3, 0, 6), (3, 4, 0, 8), (4, 5, 0, 10), (5, 6, 0, 6), (6, 7, -1, 5), (7, 8, 0, 9999), (8, 9, 0, 10), (9, 10, 0, 9), (10, 16, 0, 39), (16, 22, 0, 9999), (22, 28, 0, 1), (28, 33, 0, 7), (33, 73, 0, 1), (73, 113, 0, 99), (113, 153, 0, 3), (153, 193, 1, 9), (193, 198, 0, 20), (198, 204, 0, 7), (204, 210, 0, 20), (210, 226, 0, 99), (226, 246, 0, 63)]
/-- a value that may stand at a place -/
def RWv (j : Nat) (v : Int32) : Prop := ∀ q ∈ RWT, q.1 ≤ j → j < q.2.1 → q.2.2.1 ≤ v.toInt ∧ v.toInt ≤ q.2.2.2
def RW (f : Nat → Int32) : Prop := ∀ j : Nat, RWv j (f j)
theorem RW.up {f : Nat → Int32} (h : RW f) {n : Nat} {v : Int32} (hv : RWv n v) : RW (upd f n v) := by
  intro i
  unfold upd
  by_cases e : i = n
  · rw [if_pos e, e]; exact hv
  · rw [if_neg e]; exact h i
theorem RW.at_0 {f : Nat → Int32} (h : RW f) {n : Nat} {z : Int} (hn : (n : Int) = z) (h1 : 0 ≤ z) (h2 : z < 1) : 0 ≤ (f n).toInt ∧ (f n).toInt ≤ 6 := h n (0, 1, 0, 6) (by decide) (by show 0 ≤ n; omega) (by show n < 1; omega)
theorem RW.up_0 {f : Nat → Int32} (h : RW f) {n : Nat} {z : Int} (hn : (n : Int) = z) (h1 : 0 ≤ z) (h2 : z < 1) {v : Int32} {w : Int} (hv : v.toInt = w) (h3 : 0 ≤ w) (h4 : w ≤ 6) : RW (upd f n v) := by
  refine h.up (fun q hq k1 k2 => ?_)
  simp only [RWT, List.mem_cons, List.not_mem_nil, or_false] at hq
  rcases hq with rfl | rfl | rfl | rfl | rfl | rfl | rfl | rfl | rfl | rfl | rfl | rfl | rfl | rfl | rfl | rfl | rfl | rfl | rfl | rfl | rfl | rfl | rfl <;> simp only at k1 k2 ⊢ <;> omega
theorem RW.at_1 {f : Nat → Int32} (h : RW f) {n : Nat} {z : Int} (hn : (n : Int) = z) (h1 : 1 ≤ z) (h2 : z < 2) : 0 ≤ (f n).toInt ∧ (f n).toInt ≤ 5 := h n (1, 2, 0, 5) (by decide) (by show 1 ≤ n; omega) (by show n < 2; omega)
theorem RW.up_1 {f : Nat → Int32} (h : RW f) {n : Nat} {z : Int} (hn : (n : Int) = z) (h1 : 1 ≤ z) (h2 : z < 2) {v : Int32} {w : Int} (hv : v.toInt = w) (h3 : 0 ≤ w) (h4 : w ≤ 5) : RW (upd f n v) := by
  refine h.up (fun q hq k1 k2 => ?_)
  simp only [RWT, List.mem_cons, List.not_mem_nil, or_false] at hq
  rcases hq with rfl | rfl | rfl | rfl | rfl | rfl | rfl | rfl | rfl | rfl | rfl | rfl | rfl | rfl | rfl | rfl | rfl | rfl | rfl | rfl | rfl | rfl | rfl <;> simp only at k1 k2 ⊢ <;> omega
theorem RW.at_2 {f : Nat → Int32} (h : RW f) {n : Nat} {z : Int} (hn : (n : Int) = z) (h1 : 2 ≤ z) (h2 : z < 3) : 0 ≤ (f n).toInt ∧ (f n).toInt ≤ 6 := h n (2, 3, 0, 6) (by decide) (by show 2 ≤ n; omega) (by show n < 3; omega)
theorem RW.up_2 {f : Nat → Int32} (h : RW f) {n : Nat} {z : Int} (hn : (n : Int) = z) (h1 : 2 ≤ z) (h2 : z < 3) {v : Int32} {w : Int} (hv : v.toInt = w) (h3 : 0 ≤ w) (h4 : w ≤ 6) : RW (upd f n v) := by
  refine h.up (fun q hq k1 k2 => ?_)
  simp only [RWT, List.mem_cons, List.not_mem_nil, or_false] at hq
  rcases hq with rfl | rfl | rfl | rfl | rfl | rfl | rfl | rfl | rfl | rfl | rfl | rfl | rfl | rfl | rfl | rfl | rfl | rfl | rfl | rfl | rfl | rfl | rfl <;> simp only at k1 k2 ⊢ <;> omega
theorem RW.at_3 {f : Nat → Int32} (h : RW f) {n : Nat} {z : Int} (hn : (n : Int) = z) (h1 : 3 ≤ z) (h2 : z < 4) : 0 ≤ (f n).toInt ∧ (f n).toInt ≤ 8 := h n (3, 4, 0, 8) (by decide) (by show 3 ≤ n; omega) (by show n < 4; omega)
theorem RW.up_3 {f : Nat → Int32} (h : RW f) {n : Nat} {z : Int} (hn : (n : Int) = z) (h1 : 3 ≤ z) (h2 : z < 4) {v : Int32} {w : Int} (hv : v.toInt = w) (h3 : 0 ≤ w) (h4 : w ≤ 8) : RW (upd f n v) := by
  refine h.up (fun q hq k1 k2 => ?_)
  simp only [RWT, List.mem_cons, List.not_mem_nil, or_false] at hq
  rcases hq with rfl | rfl | rfl | rfl | rfl | rfl | rfl | rfl | rfl | rfl | rfl | rfl | rfl | rfl | rfl | rfl | rfl | rfl | rfl | rfl | rfl | rfl | rfl <;> simp only at k1 k2 ⊢ <;> omega
theorem RW.at_4 {f : Nat → Int32} (h : RW f) {n : Nat} {z : Int} (hn : (n : Int) = z) (h1 : 4 ≤ z) (h2 : z < 5) : 0 ≤ (f n).toInt ∧ (f n).toInt ≤ 10 := h n (4, 5, 0, 10) (by decide) (by show 4 ≤ n; omega) (by show n < 5; omega)
theorem RW.up_4 {f : Nat → Int32} (h : RW f) {n : Nat} {z : Int} (hn : (n : Int) = z) (h1 : 4 ≤ z) (h2 : z < 5) {v : Int32} {w : Int} (hv : v.toInt = w) (h3 : 0 ≤ w) (h4 : w ≤ 10) : RW (upd f n v) := by
  refine h.up (fun q hq k1 k2 => ?_)
  simp only [RWT, List.mem_cons, List.not_mem_nil, or_false] at hq
  rcases hq with rfl | rfl | rfl | rfl | rfl | rfl | rfl | rfl | rfl | rfl | rfl | rfl | rfl | rfl | rfl | rfl | rfl | rfl | rfl | rfl | rfl | rfl | rfl <;> simp only at k1 k2 ⊢ <;> omega
theorem RW.at_5 {f : Nat → Int32} (h : RW f) {n : Nat} {z : Int} (hn : (n : Int) = z) (h1 : 5 ≤ z) (h2 : z < 6) : 0 ≤ (f n).toInt ∧ (f n).toInt ≤ 6 := h n (5, 6, 0, 6) (by decide) (by show 5 ≤ n; omega) (by show n < 6; omega)
theorem RW.up_5 {f : Nat → Int32} (h : RW f) {n : Nat} {z : Int} (hn : (n : Int) = z) (h1 : 5 ≤ z) (h2 : z < 6) {v : Int32} {w : Int} (hv : v.toInt = w) (h3 : 0 ≤ w) (h4 : w ≤ 6) : RW (upd f n v) := by
  refine h.up (fun q hq k1 k2 => ?_)
  simp only [RWT, List.mem_cons, List.not_mem_nil, or_false] at hq
  rcases hq with rfl | rfl | rfl | rfl | rfl | rfl | rfl | rfl | rfl | rfl | rfl | rfl | rfl | rfl | rfl | rfl | rfl | rfl | rfl | rfl | rfl | rfl | rfl <;> simp only at k1 k2 ⊢ <;> omega
theorem RW.at_6 {f : Nat → Int32} (h : RW f) {n : Nat} {z : Int} (hn : (n : Int) = z) (h1 : 6 ≤ z) (h2 : z < 7) : (-1) ≤ (f n).toInt ∧ (f n).toInt ≤ 5 := h n (6, 7, -1, 5) (by decide) (by show 6 ≤ n; omega) (by show n < 7; omega)
theorem RW.up_6 {f : Nat → Int32} (h : RW f) {n : Nat} {z : Int} (hn : (n : Int) = z) (h1 : 6 ≤ z) (h2 : z < 7) {v : Int32} {w : Int} (hv : v.toInt = w) (h3 : (-1) ≤ w) (h4 : w ≤ 5) : RW (upd f n v) := by
  refine h.up (fun q hq k1 k2 => ?_)
  simp only [RWT, List.mem_cons, List.not_mem_nil, or_false] at hq
  rcases hq with rfl | rfl | rfl | rfl | rfl | rfl | rfl | rfl | rfl | rfl | rfl | rfl | rfl | rfl | rfl | rfl | rfl | rfl | rfl | rfl | rfl | rfl | rfl <;> simp only at k1 k2 ⊢ <;> omega
theorem RW.at_7 {f : Nat → Int32} (h : RW f) {n : Nat} {z : Int} (hn : (n : Int) = z) (h1 : 7 ≤ z) (h2 : z < 8) : 0 ≤ (f n).toInt ∧ (f n).toInt ≤ 9999 := h n (7, 8, 0, 9999) (by decide) (by show 7 ≤ n; omega) (by show n < 8; omega)
theorem RW.up_7 {f : Nat → Int32} (h : RW f) {n : Nat} {z : Int} (hn : (n : Int) = z) (h1 : 7 ≤ z) (h2 : z < 8) {v : Int32} {w : Int} (hv : v.toInt = w) (h3 : 0 ≤ w) (h4 : w ≤ 9999) : RW (upd f n v) := by
  refine h.up (fun q hq k1 k2 => ?_)
  simp only [RWT, List.mem_cons, List.not_mem_nil, or_false] at hq
  rcases hq with rfl | rfl | rfl | rfl | rfl | rfl | rfl | rfl | rfl | rfl | rfl | rfl | rfl | rfl | rfl | rfl | rfl | rfl | rfl | rfl | rfl | rfl | rfl <;> simp only at k1 k2 ⊢ <;> omega
theorem RW.at_8 {f : Nat → Int32} (h : RW f) {n : Nat} {z : Int} (hn : (n : Int) = z) (h1 : 8 ≤ z) (h2 : z < 9) : 0 ≤ (f n).toInt ∧ (f n).toInt ≤ 10 := h n (8, 9, 0, 10) (by decide) (by show 8 ≤ n; omega) (by show n < 9; omega)
theorem RW.up_8 {f : Nat → Int32} (h : RW f) {n : Nat} {z : Int} (hn : (n : Int) = z) (h1 : 8 ≤ z) (h2 : z < 9) {v : Int32} {w : Int} (hv : v.toInt = w) (h3 : 0 ≤ w) (h4 : w ≤ 10) : RW (upd f n v) := by
  refine h.up (fun q hq k1 k2 => ?_)
  simp only [RWT, List.mem_cons, List.not_mem_nil, or_false] at hq
  rcases hq with rfl | rfl | rfl | rfl | rfl | rfl | rfl | rfl | rfl | rfl | rfl | rfl | rfl | rfl | rfl | rfl | rfl | rfl | rfl | rfl | rfl | rfl | rfl <;> simp only at k1 k2 ⊢ <;> omega
theorem RW.at_9 {f : Nat → Int32} (h : RW f) {n : Nat} {z : Int} (hn : (n : Int) = z) (h1 : 9 ≤ z) (h2 : z < 10) : 0 ≤ (f n).toInt ∧ (f n).toInt ≤ 9 := h n (9, 10, 0, 9) (by decide) (by show 9 ≤ n; omega) (by show n < 10; omega)
theorem RW.up_9 {f : Nat → Int32} (h : RW f) {n : Nat} {z : Int} (hn : (n : Int) = z) (h1 : 9 ≤ z) (h2 : z < 10) {v : Int32} {w : Int} (hv : v.toInt = w) (h3 : 0 ≤ w) (h4 : w ≤ 9) : RW (upd f n v) := by
  refine h.up (fun q hq k1 k2 => ?_)
  simp only [RWT, List.mem_cons, List.not_mem_nil, or_false] at hq
  rcases hq with rfl | rfl | rfl | rfl | rfl | rfl | rfl | rfl | rfl | rfl | rfl | rfl | rfl | rfl | rfl | rfl | rfl | rfl | rfl | rfl | rfl | rfl | rfl <;> simp only at k1 k2 ⊢ <;> omega
theorem RW.at_10 {f : Nat → Int32} (h : RW f) {n : Nat} {z : Int} (hn : (n : Int) = z) (h1 : 10 ≤ z) (h2 : z < 16) : 0 ≤ (f n).toInt ∧ (f n).toInt ≤ 39 := h n (10, 16, 0, 39) (by decide) (by show 10 ≤ n; omega) (by show n < 16; omega)
theorem RW.up_10 {f : Nat → Int32} (h : RW f) {n : Nat} {z : Int} (hn : (n : Int) = z) (h1 : 10 ≤ z) (h2 : z < 16) {v : Int32} {w : Int} (hv : v.toInt = w) (h3 : 0 ≤ w) (h4 : w ≤ 39) : RW (upd f n v) := by
  refine h.up (fun q hq k1 k2 => ?_)
  simp only [RWT, List.mem_cons, List.not_mem_nil, or_false] at hq
  rcases hq with rfl | rfl | rfl | rfl | rfl | rfl | rfl | rfl | rfl | rfl | rfl | rfl | rfl | rfl | rfl | rfl | rfl | rfl | rfl | rfl | rfl | rfl | rfl <;> simp only at k1 k2 ⊢ <;> omega
theorem RW.at_16 {f : Nat → Int32} (h : RW f) {n : Nat} {z : Int} (hn : (n : Int) = z) (h1 : 16 ≤ z) (h2 : z < 22) : 0 ≤ (f n).toInt ∧ (f n).toInt ≤ 9999 := h n (16, 22, 0, 9999) (by decide) (by show 16 ≤ n; omega) (by show n < 22; omega)
theorem RW.up_16 {f : Nat → Int32} (h : RW f) {n : Nat} {z : Int} (hn : (n : Int) = z) (h1 : 16 ≤ z) (h2 : z < 22) {v : Int32} {w : Int} (hv : v.toInt = w) (h3 : 0 ≤ w) (h4 : w ≤ 9999) : RW (upd f n v) := by
  refine h.up (fun q hq k1 k2 => ?_)
  simp only [RWT, List.mem_cons, List.not_mem_nil, or_false] at hq
  rcases hq with rfl | rfl | rfl | rfl | rfl | rfl | rfl | rfl | rfl | rfl | rfl | rfl | rfl | rfl | rfl | rfl | rfl | rfl | rfl | rfl | rfl | rfl | rfl <;> simp only at k1 k2 ⊢ <;> omega
theorem RW.at_22 {f : Nat → Int32} (h : RW f) {n : Nat} {z : Int} (hn : (n : Int) = z) (h1 : 22 ≤ z) (h2 : z < 28) : 0 ≤ (f n).toInt ∧ (f n).toInt ≤ 1 := h n (22, 28, 0, 1) (by decide) (by show 22 ≤ n; omega) (by show n < 28; omega)
theorem RW.up_22 {f : Nat → Int32} (h : RW f) {n : Nat} {z : Int} (hn : (n : Int) = z) (h1 : 22 ≤ z) (h2 : z < 28) {v : Int32} {w : Int} (hv : v.toInt = w) (h3 : 0 ≤ w) (h4 : w ≤ 1) : RW (upd f n v) := by
  refine h.up (fun q hq k1 k2 => ?_)
  simp only [RWT, List.mem_cons, List.not_mem_nil, or_false] at hq
  rcases hq with rfl | rfl | rfl | rfl | rfl | rfl | rfl | rfl | rfl | rfl | rfl | rfl | rfl | rfl | rfl | rfl | rfl | rfl | rfl | rfl | rfl | rfl | rfl <;> simp only at k1 k2 ⊢ <;> omega
theorem RW.at_28 {f : Nat → Int32} (h : RW f) {n : Nat} {z : Int} (hn : (n : Int) = z) (h1 : 28 ≤ z) (h2 : z < 33) : 0 ≤ (f n).toInt ∧ (f n).toInt ≤ 7 := h n (28, 33, 0, 7) (by decide) (by show 28 ≤ n; omega) (by show n < 33; omega)
theorem RW.up_28 {f : Nat → Int32} (h : RW f) {n : Nat} {z : Int} (hn : (n : Int) = z) (h1 : 28 ≤ z) (h2 : z < 33) {v : Int32} {w : Int} (hv : v.toInt = w) (h3 : 0 ≤ w) (h4 : w ≤ 7) : RW (upd f n v) := by
  refine h.up (fun q hq k1 k2 => ?_)
  simp only [RWT, List.mem_cons, List.not_mem_nil, or_false] at hq
  rcases hq with rfl | rfl | rfl | rfl | rfl | rfl | rfl | rfl | rfl | rfl | rfl | rfl | rfl | rfl | rfl | rfl | rfl | rfl | rfl | rfl | rfl | rfl | rfl <;> simp only at k1 k2 ⊢ <;> omega
theorem RW.at_33 {f : Nat → Int32} (h : RW f) {n : Nat} {z : Int} (hn : (n : Int) = z) (h1 : 33 ≤ z) (h2 : z < 73) : 0 ≤ (f n).toInt ∧ (f n).toInt ≤ 1 := h n (33, 73, 0, 1) (by decide) (by show 33 ≤ n; omega) (by show n < 73; omega)
theorem RW.up_33 {f : Nat → Int32} (h : RW f) {n : Nat} {z : Int} (hn : (n : Int) = z) (h1 : 33 ≤ z) (h2 : z < 73) {v : Int32} {w : Int} (hv : v.toInt = w) (h3 : 0 ≤ w) (h4 : w ≤ 1) : RW (upd f n v) := by
  refine h.up (fun q hq k1 k2 => ?_)
  simp only [RWT, List.mem_cons, List.not_mem_nil, or_false] at hq
  rcases hq with rfl | rfl | rfl | rfl | rfl | rfl | rfl | rfl | rfl | rfl | rfl | rfl | rfl | rfl | rfl | rfl | rfl | rfl | rfl | rfl | rfl | rfl | rfl <;> simp only at k1 k2 ⊢ <;> omega
theorem RW.at_73 {f : Nat → Int32} (h : RW f) {n : Nat} {z : Int} (hn : (n : Int) = z) (h1 : 73 ≤ z) (h2 : z < 113) : 0 ≤ (f n).toInt ∧ (f n).toInt ≤ 99 := h n (73, 113, 0, 99) (by decide) (by show 73 ≤ n; omega) (by show n < 113; omega)
theorem RW.up_73 {f : Nat → Int32} (h : RW f) {n : Nat} {z : Int} (hn : (n : Int) = z) (h1 : 73 ≤ z) (h2 : z < 113) {v : Int32} {w : Int} (hv : v.toInt = w) (h3 : 0 ≤ w) (h4 : w ≤ 99) : RW (upd f n v) := by
  refine h.up (fun q hq k1 k2 => ?_)
  simp only [RWT, List.mem_cons, List.not_mem_nil, or_false] at hq
  rcases hq with rfl | rfl | rfl | rfl | rfl | rfl | rfl | rfl | rfl | rfl | rfl | rfl | rfl | rfl | rfl | rfl | rfl | rfl | rfl | rfl | rfl | rfl | rfl <;> simp only at k1 k2 ⊢ <;> omega
theorem RW.at_113 {f : Nat → Int32} (h : RW f) {n : Nat} {z : Int} (hn : (n : Int) = z) (h1 : 113 ≤ z) (h2 : z < 153) : 0 ≤ (f n).toInt ∧ (f n).toInt ≤ 3 := h n (113, 153, 0, 3) (by decide) (by show 113 ≤ n; omega) (by show n < 153; omega)
theorem RW.up_113 {f : Nat → Int32} (h : RW f) {n : Nat} {z : Int} (hn : (n : Int) = z) (h1 : 113 ≤ z) (h2 : z < 153) {v : Int32} {w : Int} (hv : v.toInt = w) (h3 : 0 ≤ w) (h4 : w ≤ 3) : RW (upd f n v) := by
  refine h.up (fun q hq k1 k2 => ?_)
  simp only [RWT, List.mem_cons, List.not_mem_nil, or_false] at hq
  rcases hq with rfl | rfl | rfl | rfl | rfl | rfl | rfl | rfl | rfl | rfl | rfl | rfl | rfl | rfl | rfl | rfl | rfl | rfl | rfl | rfl | rfl | rfl | rfl <;> simp only at k1 k2 ⊢ <;> omega
theorem RW.at_153 {f : Nat → Int32} (h : RW f) {n : Nat} {z : Int} (hn : (n : Int) = z) (h1 : 153 ≤ z) (h2 : z < 193) : 1 ≤ (f n).toInt ∧ (f n).toInt ≤ 9 := h n (153, 193, 1, 9) (by decide) (by show 153 ≤ n; omega) (by show n < 193; omega)
theorem RW.up_153 {f : Nat → Int32} (h : RW f) {n : Nat} {z : Int} (hn : (n : Int) = z) (h1 : 153 ≤ z) (h2 : z < 193) {v : Int32} {w : Int} (hv : v.toInt = w) (h3 : 1 ≤ w) (h4 : w ≤ 9) : RW (upd f n v) := by
  refine h.up (fun q hq k1 k2 => ?_)
  simp only [RWT, List.mem_cons, List.not_mem_nil, or_false] at hq
  rcases hq with rfl | rfl | rfl | rfl | rfl | rfl | rfl | rfl | rfl | rfl | rfl | rfl | rfl | rfl | rfl | rfl | rfl | rfl | rfl | rfl | rfl | rfl | rfl <;> simp only at k1 k2 ⊢ <;> omega
theorem RW.at_193 {f : Nat → Int32} (h : RW f) {n : Nat} {z : Int} (hn : (n : Int) = z) (h1 : 193 ≤ z) (h2 : z < 198) : 0 ≤ (f n).toInt ∧ (f n).toInt ≤ 20 := h n (193, 198, 0, 20) (by decide) (by show 193 ≤ n; omega) (by show n < 198; omega)
theorem RW.up_193 {f : Nat → Int32} (h : RW f) {n : Nat} {z : Int} (hn : (n : Int) = z) (h1 : 193 ≤ z) (h2 : z < 198) {v : Int32} {w : Int} (hv : v.toInt = w) (h3 : 0 ≤ w) (h4 : w ≤ 20) : RW (upd f n v) := by
  refine h.up (fun q hq k1 k2 => ?_)
  simp only [RWT, List.mem_cons, List.not_mem_nil, or_false] at hq
  rcases hq with rfl | rfl | rfl | rfl | rfl | rfl | rfl | rfl | rfl | rfl | rfl | rfl | rfl | rfl | rfl | rfl | rfl | rfl | rfl | rfl | rfl | rfl | rfl <;> simp only at k1 k2 ⊢ <;> omega
theorem RW.at_198 {f : Nat → Int32} (h : RW f) {n : Nat} {z : Int} (hn : (n : Int) = z) (h1 : 198 ≤ z) (h2 : z < 204) : 0 ≤ (f n).toInt ∧ (f n).toInt ≤ 7 := h n (198, 204, 0, 7) (by decide) (by show 198 ≤ n; omega) (by show n < 204; omega)
theorem RW.up_198 {f : Nat → Int32} (h : RW f) {n : Nat} {z : Int} (hn : (n : Int) = z) (h1 : 198 ≤ z) (h2 : z < 204) {v : Int32} {w : Int} (hv : v.toInt = w) (h3 : 0 ≤ w) (h4 : w ≤ 7) : RW (upd f n v) := by
  refine h.up (fun q hq k1 k2 => ?_)
  simp only [RWT, List.mem_cons, List.not_mem_nil, or_false] at hq
  rcases hq with rfl | rfl | rfl | rfl | rfl | rfl | rfl | rfl | rfl | rfl | rfl | rfl | rfl | rfl | rfl | rfl | rfl | rfl | rfl | rfl | rfl | rfl | rfl <;> simp only at k1 k2 ⊢ <;> omega
theorem RW.at_204 {f : Nat → Int32} (h : RW f) {n : Nat} {z : Int} (hn : (n : Int) = z) (h1 : 204 ≤ z) (h2 : z < 210) : 0 ≤ (f n).toInt ∧ (f n).toInt ≤ 20 := h n (204, 210, 0, 20) (by decide) (by show 204 ≤ n; omega) (by show n < 210; omega)
theorem RW.up_204 {f : Nat → Int32} (h : RW f) {n : Nat} {z : Int} (hn : (n : Int) = z) (h1 : 204 ≤ z) (h2 : z < 210) {v : Int32} {w : Int} (hv : v.toInt = w) (h3 : 0 ≤ w) (h4 : w ≤ 20) : RW (upd f n v) := by
  refine h.up (fun q hq k1 k2 => ?_)
  simp only [RWT, List.mem_cons, List.not_mem_nil, or_false] at hq
  rcases hq with rfl | rfl | rfl | rfl | rfl | rfl | rfl | rfl | rfl | rfl | rfl | rfl | rfl | rfl | rfl | rfl | rfl | rfl | rfl | rfl | rfl | rfl | rfl <;> simp only at k1 k2 ⊢ <;> omega
theorem RW.at_210 {f : Nat → Int32} (h : RW f) {n : Nat} {z : Int} (hn : (n : Int) = z) (h1 : 210 ≤ z) (h2 : z < 226) : 0 ≤ (f n).toInt ∧ (f n).toInt ≤ 99 := h n (210, 226, 0, 99) (by decide) (by show 210 ≤ n; omega) (by show n < 226; omega)
theorem RW.up_210 {f : Nat → Int32} (h : RW f) {n : Nat} {z : Int} (hn : (n : Int) = z) (h1 : 210 ≤ z) (h2 : z < 226) {v : Int32} {w : Int} (hv : v.toInt = w) (h3 : 0 ≤ w) (h4 : w ≤ 99) : RW (upd f n v) := by
  refine h.up (fun q hq k1 k2 => ?_)
  simp only [RWT, List.mem_cons, List.not_mem_nil, or_false] at hq
  rcases hq with rfl | rfl | rfl | rfl | rfl | rfl | rfl | rfl | rfl | rfl | rfl | rfl | rfl | rfl | rfl | rfl | rfl | rfl | rfl | rfl | rfl | rfl | rfl <;> simp only at k1 k2 ⊢ <;> omega
theorem RW.up_226 {f : Nat → Int32} (h : RW f) {n : Nat} {z : Int} (hn : (n : Int) = z) (h1 : 226 ≤ z) (h2 : z < 246) {v : Int32} {w : Int} (hv : v.toInt = w) (h3 : 0 ≤ w) (h4 : w ≤ 63) : RW (upd f n v) := by
  refine h.up (fun q hq k1 k2 => ?_)
  simp only [RWT, List.mem_cons, List.not_mem_nil, or_false] at hq
  rcases hq with rfl | rfl | rfl | rfl | rfl | rfl | rfl | rfl | rfl | rfl | rfl | rfl | rfl | rfl | rfl | rfl | rfl | rfl | rfl | rfl | rfl | rfl | rfl <;> simp only at k1 k2 ⊢ <;> omega
def RLW (f : Nat → Int32) : Prop := RW f ∧ LW f
theorem RLW.at_0 {f : Nat → Int32} (h : RLW f) {n : Nat} {z : Int} (hn : (n : Int) = z) (h1 : 0 ≤ z) (h2 : z < 1) : 0 ≤ (f n).toInt ∧ (f n).toInt ≤ 6 := RW.at_0 h.1 hn h1 h2
theorem RLW.up_0 {f : Nat → Int32} (h : RLW f) {n : Nat} {z : Int} (hn : (n : Int) = z) (h1 : 0 ≤ z) (h2 : z < 1) {v : Int32} {w : Int} (hv : v.toInt = w) (h3 : 0 ≤ w) (h4 : w ≤ 6) : RLW (upd f n v) := ⟨RW.up_0 h.1 hn h1 h2 hv h3 h4, h.2.up (by omega)⟩
theorem RLW.at_1 {f : Nat → Int32} (h : RLW f) {n : Nat} {z : Int} (hn : (n : Int) = z) (h1 : 1 ≤ z) (h2 : z < 2) : 0 ≤ (f n).toInt ∧ (f n).toInt ≤ 5 := RW.at_1 h.1 hn h1 h2
theorem RLW.up_1 {f : Nat → Int32} (h : RLW f) {n : Nat} {z : Int} (hn : (n : Int) = z) (h1 : 1 ≤ z) (h2 : z < 2) {v : Int32} {w : Int} (hv : v.toInt = w) (h3 : 0 ≤ w) (h4 : w ≤ 5) : RLW (upd f n v) := ⟨RW.up_1 h.1 hn h1 h2 hv h3 h4, h.2.up (by omega)⟩
theorem RLW.at_2 {f : Nat → Int32} (h : RLW f) {n : Nat} {z : Int} (hn : (n : Int) = z) (h1 : 2 ≤ z) (h2 : z < 3) : 0 ≤ (f n).toInt ∧ (f n).toInt ≤ 6 := RW.at_2 h.1 hn h1 h2
theorem RLW.up_2 {f : Nat → Int32} (h : RLW f) {n : Nat} {z : Int} (hn : (n : Int) = z) (h1 : 2 ≤ z) (h2 : z < 3) {v : Int32} {w : Int} (hv : v.toInt = w) (h3 : 0 ≤ w) (h4 : w ≤ 6) : RLW (upd f n v) := ⟨RW.up_2 h.1 hn h1 h2 hv h3 h4, h.2.up (by omega)⟩
theorem RLW.at_3 {f : Nat → Int32} (h : RLW f) {n : Nat} {z : Int} (hn : (n : Int) = z) (h1 : 3 ≤ z) (h2 : z < 4) : 0 ≤ (f n).toInt ∧ (f n).toInt ≤ 8 := RW.at_3 h.1 hn h1 h2
theorem RLW.up_3 {f : Nat → Int32} (h : RLW f) {n : Nat} {z : Int} (hn : (n : Int) = z) (h1 : 3 ≤ z) (h2 : z < 4) {v : Int32} {w : Int} (hv : v.toInt = w) (h3 : 0 ≤ w) (h4 : w ≤ 8) : RLW (upd f n v) := ⟨RW.up_3 h.1 hn h1 h2 hv h3 h4, h.2.up (by omega)⟩
theorem RLW.at_4 {f : Nat → Int32} (h : RLW f) {n : Nat} {z : Int} (hn : (n : Int) = z) (h1 : 4 ≤ z) (h2 : z < 5) : 0 ≤ (f n).toInt ∧ (f n).toInt ≤ 10 := RW.at_4 h.1 hn h1 h2
theorem RLW.up_4 {f : Nat → Int32} (h : RLW f) {n : Nat} {z : Int} (hn : (n : Int) = z) (h1 : 4 ≤ z) (h2 : z < 5) {v : Int32} {w : Int} (hv : v.toInt = w) (h3 : 0 ≤ w) (h4 : w ≤ 10) : RLW (upd f n v) := ⟨RW.up_4 h.1 hn h1 h2 hv h3 h4, h.2.up (by omega)⟩
theorem RLW.at_5 {f : Nat → Int32} (h : RLW f) {n : Nat} {z : Int} (hn : (n : Int) = z) (h1 : 5 ≤ z) (h2 : z < 6) : 0 ≤ (f n).toInt ∧ (f n).toInt ≤ 6 := RW.at_5 h.1 hn h1 h2
theorem RLW.up_5 {f : Nat → Int32} (h : RLW f) {n : Nat} {z : Int} (hn : (n : Int) = z) (h1 : 5 ≤ z) (h2 : z < 6) {v : Int32} {w : Int} (hv : v.toInt = w) (h3 : 0 ≤ w) (h4 : w ≤ 6) : RLW (upd f n v) := ⟨RW.up_5 h.1 hn h1 h2 hv h3 h4, h.2.up (by omega)⟩
theorem RLW.at_6 {f : Nat → Int32} (h : RLW f) {n : Nat} {z : Int} (hn : (n : Int) = z) (h1 : 6 ≤ z) (h2 : z < 7) : (-1) ≤ (f n).toInt ∧ (f n).toInt ≤ 5 := RW.at_6 h.1 hn h1 h2
theorem RLW.up_6 {f : Nat → Int32} (h : RLW f) {n : Nat} {z : Int} (hn : (n : Int) = z) (h1 : 6 ≤ z) (h2 : z < 7) {v : Int32} {w : Int} (hv : v.toInt = w) (h3 : (-1) ≤ w) (h4 : w ≤ 5) : RLW (upd f n v) := ⟨RW.up_6 h.1 hn h1 h2 hv h3 h4, h.2.up (by omega)⟩
theorem RLW.at_7 {f : Nat → Int32} (h : RLW f) {n : Nat} {z : Int} (hn : (n : Int) = z) (h1 : 7 ≤ z) (h2 : z < 8) : 0 ≤ (f n).toInt ∧ (f n).toInt ≤ 9999 := RW.at_7 h.1 hn h1 h2
theorem RLW.up_7 {f : Nat → Int32} (h : RLW f) {n : Nat} {z : Int} (hn : (n : Int) = z) (h1 : 7 ≤ z) (h2 : z < 8) {v : Int32} {w : Int} (hv : v.toInt = w) (h3 : 0 ≤ w) (h4 : w ≤ 9999) : RLW (upd f n v) := ⟨RW.up_7 h.1 hn h1 h2 hv h3 h4, h.2.up (by omega)⟩
theorem RLW.at_8 {f : Nat → Int32} (h : RLW f) {n : Nat} {z : Int} (hn : (n : Int) = z) (h1 : 8 ≤ z) (h2 : z < 9) : 0 ≤ (f n).toInt ∧ (f n).toInt ≤ 10 := RW.at_8 h.1 hn h1 h2
theorem RLW.up_8 {f : Nat → Int32} (h : RLW f) {n : Nat} {z : Int} (hn : (n : Int) = z) (h1 : 8 ≤ z) (h2 : z < 9) {v : Int32} {w : Int} (hv : v.toInt = w) (h3 : 0 ≤ w) (h4 : w ≤ 10) : RLW (upd f n v) := ⟨RW.up_8 h.1 hn h1 h2 hv h3 h4, h.2.up (by omega)⟩
theorem RLW.at_9 {f : Nat → Int32} (h : RLW f) {n : Nat} {z : Int} (hn : (n : Int) = z) (h1 : 9 ≤ z) (h2 : z < 10) : 0 ≤ (f n).toInt ∧ (f n).toInt ≤ 9 := RW.at_9 h.1 hn h1 h2
theorem RLW.up_9 {f : Nat → Int32} (h : RLW f) {n : Nat} {z : Int} (hn : (n : Int) = z) (h1 : 9 ≤ z) (h2 : z < 10) {v : Int32} {w : Int} (hv : v.toInt = w) (h3 : 0 ≤ w) (h4 : w ≤ 9) : RLW (upd f n v) := ⟨RW.up_9 h.1 hn h1 h2 hv h3 h4, h.2.up (by omega)⟩
theorem RLW.at_10 {f : Nat → Int32} (h : RLW f) {n : Nat} {z : Int} (hn : (n : Int) = z) (h1 : 10 ≤ z) (h2 : z < 16) : 0 ≤ (f n).toInt ∧ (f n).toInt ≤ 39 := RW.at_10 h.1 hn h1 h2
theorem RLW.up_10 {f : Nat → Int32} (h : RLW f) {n : Nat} {z : Int} (hn : (n : Int) = z) (h1 : 10 ≤ z) (h2 : z < 16) {v : Int32} {w : Int} (hv : v.toInt = w) (h3 : 0 ≤ w) (h4 : w ≤ 39) : RLW (upd f n v) := ⟨RW.up_10 h.1 hn h1 h2 hv h3 h4, h.2.up (by omega)⟩
theorem RLW.at_16 {f : Nat → Int32} (h : RLW f) {n : Nat} {z : Int} (hn : (n : Int) = z) (h1 : 16 ≤ z) (h2 : z < 22) : 0 ≤ (f n).toInt ∧ (f n).toInt ≤ 9999 := RW.at_16 h.1 hn h1 h2
theorem RLW.up_16 {f : Nat → Int32} (h : RLW f) {n : Nat} {z : Int} (hn : (n : Int) = z) (h1 : 16 ≤ z) (h2 : z < 22) {v : Int32} {w : Int} (hv : v.toInt = w) (h3 : 0 ≤ w) (h4 : w ≤ 9999) : RLW (upd f n v) := ⟨RW.up_16 h.1 hn h1 h2 hv h3 h4, h.2.up (by omega)⟩
theorem RLW.at_22 {f : Nat → Int32} (h : RLW f) {n : Nat} {z : Int} (hn : (n : Int) = z) (h1 : 22 ≤ z) (h2 : z < 28) : 0 ≤ (f n).toInt ∧ (f n).toInt ≤ 1 := RW.at_22 h.1 hn h1 h2
theorem RLW.up_22 {f : Nat → Int32} (h : RLW f) {n : Nat} {z : Int} (hn : (n : Int) = z) (h1 : 22 ≤ z) (h2 : z < 28) {v : Int32} {w : Int} (hv : v.toInt = w) (h3 : 0 ≤ w) (h4 : w ≤ 1) : RLW (upd f n v) := ⟨RW.up_22 h.1 hn h1 h2 hv h3 h4, h.2.up (by omega)⟩
theorem RLW.at_28 {f : Nat → Int32} (h : RLW f) {n : Nat} {z : Int} (hn : (n : Int) = z) (h1 : 28 ≤ z) (h2 : z < 33) : 0 ≤ (f n).toInt ∧ (f n).toInt ≤ 7 := RW.at_28 h.1 hn h1 h2
theorem RLW.up_28 {f : Nat → Int32} (h : RLW f) {n : Nat} {z : Int} (hn : (n : Int) = z) (h1 : 28 ≤ z) (h2 : z < 33) {v : Int32} {w : Int} (hv : v.toInt = w) (h3 : 0 ≤ w) (h4 : w ≤ 7) : RLW (upd f n v) := ⟨RW.up_28 h.1 hn h1 h2 hv h3 h4, h.2.up (by omega)⟩
theorem RLW.at_33 {f : Nat → Int32} (h : RLW f) {n : Nat} {z : Int} (hn : (n : Int) = z) (h1 : 33 ≤ z) (h2 : z < 73) : 0 ≤ (f n).toInt ∧ (f n).toInt ≤ 1 := RW.at_33 h.1 hn h1 h2
theorem RLW.up_33 {f : Nat → Int32} (h : RLW f) {n : Nat} {z : Int} (hn : (n : Int) = z) (h1 : 33 ≤ z) (h2 : z < 73) {v : Int32} {w : Int} (hv : v.toInt = w) (h3 : 0 ≤ w) (h4 : w ≤ 1) : RLW (upd f n v) := ⟨RW.up_33 h.1 hn h1 h2 hv h3 h4, h.2.up (by omega)⟩
theorem RLW.at_73 {f : Nat → Int32} (h : RLW f) {n : Nat} {z : Int} (hn : (n : Int) = z) (h1 : 73 ≤ z) (h2 : z < 113) : 0 ≤ (f n).toInt ∧ (f n).toInt ≤ 99 := RW.at_73 h.1 hn h1 h2
theorem RLW.up_73 {f : Nat → Int32} (h : RLW f) {n : Nat} {z : Int} (hn : (n : Int) = z) (h1 : 73 ≤ z) (h2 : z < 113) {v : Int32} {w : Int} (hv : v.toInt = w) (h3 : 0 ≤ w) (h4 : w ≤ 99) : RLW (upd f n v) := ⟨RW.up_73 h.1 hn h1 h2 hv h3 h4, h.2.up (by omega)⟩
theorem RLW.at_113 {f : Nat → Int32} (h : RLW f) {n : Nat} {z : Int} (hn : (n : Int) = z) (h1 : 113 ≤ z) (h2 : z < 153) : 0 ≤ (f n).toInt ∧ (f n).toInt ≤ 3 := RW.at_113 h.1 hn h1 h2
theorem RLW.up_113 {f : Nat → Int32} (h : RLW f) {n : Nat} {z : Int} (hn : (n : Int) = z) (h1 : 113 ≤ z) (h2 : z < 153) {v : Int32} {w : Int} (hv : v.toInt = w) (h3 : 0 ≤ w) (h4 : w ≤ 3) : RLW (upd f n v) := ⟨RW.up_113 h.1 hn h1 h2 hv h3 h4, h.2.up (by omega)⟩
theorem RLW.at_153 {f : Nat → Int32} (h : RLW f) {n : Nat} {z : Int} (hn : (n : Int) = z) (h1 : 153 ≤ z) (h2 : z < 193) : 1 ≤ (f n).toInt ∧ (f n).toInt ≤ 9 := RW.at_153 h.1 hn h1 h2
theorem RLW.up_153 {f : Nat → Int32} (h : RLW f) {n : Nat} {z : Int} (hn : (n : Int) = z) (h1 : 153 ≤ z) (h2 : z < 193) {v : Int32} {w : Int} (hv : v.toInt = w) (h3 : 1 ≤ w) (h4 : w ≤ 9) : RLW (upd f n v) := ⟨RW.up_153 h.1 hn h1 h2 hv h3 h4, h.2.up (by omega)⟩
theorem RLW.at_193 {f : Nat → Int32} (h : RLW f) {n : Nat} {z : Int} (hn : (n : Int) = z) (h1 : 193 ≤ z) (h2 : z < 198) : 0 ≤ (f n).toInt ∧ (f n).toInt ≤ 20 := RW.at_193 h.1 hn h1 h2
theorem RLW.up_193 {f : Nat → Int32} (h : RLW f) {n : Nat} {z : Int} (hn : (n : Int) = z) (h1 : 193 ≤ z) (h2 : z < 198) {v : Int32} {w : Int} (hv : v.toInt = w) (h3 : 0 ≤ w) (h4 : w ≤ 20) : RLW (upd f n v) := ⟨RW.up_193 h.1 hn h1 h2 hv h3 h4, h.2.up (by omega)⟩
theorem RLW.at_198 {f : Nat → Int32} (h : RLW f) {n : Nat} {z : Int} (hn : (n : Int) = z) (h1 : 198 ≤ z) (h2 : z < 204) : 0 ≤ (f n).toInt ∧ (f n).toInt ≤ 7 := RW.at_198 h.1 hn h1 h2
theorem RLW.up_198 {f : Nat → Int32} (h : RLW f) {n : Nat} {z : Int} (hn : (n : Int) = z) (h1 : 198 ≤ z) (h2 : z < 204) {v : Int32} {w : Int} (hv : v.toInt = w) (h3 : 0 ≤ w) (h4 : w ≤ 7) : RLW (upd f n v) := ⟨RW.up_198 h.1 hn h1 h2 hv h3 h4, h.2.up (by omega)⟩
theorem RLW.at_204 {f : Nat → Int32} (h : RLW f) {n : Nat} {z : Int} (hn : (n : Int) = z) (h1 : 204 ≤ z) (h2 : z < 210) : 0 ≤ (f n).toInt ∧ (f n).toInt ≤ 20 := RW.at_204 h.1 hn h1 h2
theorem RLW.up_204 {f : Nat → Int32} (h : RLW f) {n : Nat} {z : Int} (hn : (n : Int) = z) (h1 : 204 ≤ z) (h2 : z < 210) {v : Int32} {w : Int} (hv : v.toInt = w) (h3 : 0 ≤ w) (h4 : w ≤ 20) : RLW (upd f n v) := ⟨RW.up_204 h.1 hn h1 h2 hv h3 h4, h.2.up (by omega)⟩
theorem RLW.at_210 {f : Nat → Int32} (h : RLW f) {n : Nat} {z : Int} (hn : (n : Int) = z) (h1 : 210 ≤ z) (h2 : z < 226) : 0 ≤ (f n).toInt ∧ (f n).toInt ≤ 99 := RW.at_210 h.1 hn h1 h2
theorem RLW.up_210 {f : Nat → Int32} (h : RLW f) {n : Nat} {z : Int} (hn : (n : Int) = z) (h1 : 210 ≤ z) (h2 : z < 226) {v : Int32} {w : Int} (hv : v.toInt = w) (h3 : 0 ≤ w) (h4 : w ≤ 99) : RLW (upd f n v) := ⟨RW.up_210 h.1 hn h1 h2 hv h3 h4, h.2.up (by omega)⟩
theorem RLW.up_226 {f : Nat → Int32} (h : RLW f) {n : Nat} {z : Int} (hn : (n : Int) = z) (h1 : 226 ≤ z) (h2 : z < 246) {v : Int32} {w : Int} (hv : v.toInt = w) (h3 : 0 ≤ w) (h4 : w ≤ 63) : RLW (upd f n v) := ⟨RW.up_226 h.1 hn h1 h2 hv h3 h4, h.2.up (by omega)⟩
def TPT : List (Nat × Nat × Int × Int) := [(0, 400, 0, 255)]
/-- a value that may stand at a place -/
def TPv (j : Nat) (v : Int32) : Prop := ∀ q ∈ TPT, q.1 ≤ j → j < q.2.1 → q.2.2.1 ≤ v.toInt ∧ v.toInt ≤ q.2.2.2
def TP (f : Nat → Int32) : Prop := ∀ j : Nat, TPv j (f j)
theorem TP.up {f : Nat → Int32} (h : TP f) {n : Nat} {v : Int32} (hv : TPv n v) : TP (upd f n v) := by
  intro i
  unfold upd
  by_cases e : i = n
  · rw [if_pos e, e]; exact hv
  · rw [if_neg e]; exact h i
theorem TP.at_0 {f : Nat → Int32} (h : TP f) {n : Nat} {z : Int} (hn : (n : Int) = z) (h1 : 0 ≤ z) (h2 : z < 400) : 0 ≤ (f n).toInt ∧ (f n).toInt ≤ 255 := h n (0, 400, 0, 255) (by decide) (by show 0 ≤ n; omega) (by show n < 400; omega)
theorem TP.up_0 {f : Nat → Int32} (h : TP f) {n : Nat} {z : Int} (hn : (n : Int) = z) (h1 : 0 ≤ z) (h2 : z < 400) {v : Int32} {w : Int} (hv : v.toInt = w) (h3 : 0 ≤ w) (h4 : w ≤ 255) : TP (upd f n v) := by
  refine h.up (fun q hq k1 k2 => ?_)
  simp only [TPT, List.mem_cons, List.not_mem_nil, or_false] at hq
  rcases hq with rfl <;> simp only at k1 k2 ⊢ <;> omega
def SOT : List (Nat × Nat × Int × Int) := [(0, 16, 0, 3)]
/-- a value that may stand at a place -/
def SOv (j : Nat) (v : Int32) : Prop := ∀ q ∈ SOT, q.1 ≤ j → j < q.2.1 → q.2.2.1 ≤ v.toInt ∧ v.toInt ≤ q.2.2.2
def SO (f : Nat → Int32) : Prop := ∀ j : Nat, SOv j (f j)
theorem SO.up {f : Nat → Int32} (h : SO f) {n : Nat} {v : Int32} (hv : SOv n v) : SO (upd f n v) := by
  intro i
  unfold upd
  by_cases e : i = n
  · rw [if_pos e, e]; exact hv
  · rw [if_neg e]; exact h i
theorem SO.at_0 {f : Nat → Int32} (h : SO f) {n : Nat} {z : Int} (hn : (n : Int) = z) (h1 : 0 ≤ z) (h2 : z < 16) : 0 ≤ (f n).toInt ∧ (f n).toInt ≤ 3 := h n (0, 16, 0, 3) (by decide) (by show 0 ≤ n; omega) (by show n < 16; omega)
theorem SO.up_0 {f : Nat → Int32} (h : SO f) {n : Nat} {z : Int} (hn : (n : Int) = z) (h1 : 0 ≤ z) (h2 : z < 16) {v : Int32} {w : Int} (hv : v.toInt = w) (h3 : 0 ≤ w) (h4 : w ≤ 3) : SO (upd f n v) := by
  refine h.up (fun q hq k1 k2 => ?_)
  simp only [SOT, List.mem_cons, List.not_mem_nil, or_false] at hq
  rcases hq with rfl <;> simp only at k1 k2 ⊢ <;> omega
def GOT : List (Nat × Nat × Int × Int) := [(0, 7, -1, 7)]
/-- a value that may stand at a place -/
def GOv (j : Nat) (v : Int32) : Prop := ∀ q ∈ GOT, q.1 ≤ j → j < q.2.1 → q.2.2.1 ≤ v.toInt ∧ v.toInt ≤ q.2.2.2
def GO (f : Nat → Int32) : Prop := ∀ j : Nat, GOv j (f j)
theorem GO.up {f : Nat → Int32} (h : GO f) {n : Nat} {v : Int32} (hv : GOv n v) : GO (upd f n v) := by
  intro i
  unfold upd
  by_cases e : i = n
  · rw [if_pos e, e]; exact hv
  · rw [if_neg e]; exact h i
theorem GO.at_0 {f : Nat → Int32} (h : GO f) {n : Nat} {z : Int} (hn : (n : Int) = z) (h1 : 0 ≤ z) (h2 : z < 7) : (-1) ≤ (f n).toInt ∧ (f n).toInt ≤ 7 := h n (0, 7, -1, 7) (by decide) (by show 0 ≤ n; omega) (by show n < 7; omega)
theorem GO.up_0 {f : Nat → Int32} (h : GO f) {n : Nat} {z : Int} (hn : (n : Int) = z) (h1 : 0 ≤ z) (h2 : z < 7) {v : Int32} {w : Int} (hv : v.toInt = w) (h3 : (-1) ≤ w) (h4 : w ≤ 7) : GO (upd f n v) := by
  refine h.up (fun q hq k1 k2 => ?_)
  simp only [GOT, List.mem_cons, List.not_mem_nil, or_false] at hq
  rcases hq with rfl <;> simp only at k1 k2 ⊢ <;> omega
def GLT : List (Nat × Nat × Int × Int) := [(0, 6, 0, 39)]
/-- a value that may stand at a place -/
def GLv (j : Nat) (v : Int32) : Prop := ∀ q ∈ GLT, q.1 ≤ j → j < q.2.1 → q.2.2.1 ≤ v.toInt ∧ v.toInt ≤ q.2.2.2
def GL (f : Nat → Int32) : Prop := ∀ j : Nat, GLv j (f j)
theorem GL.up {f : Nat → Int32} (h : GL f) {n : Nat} {v : Int32} (hv : GLv n v) : GL (upd f n v) := by
  intro i
  unfold upd
  by_cases e : i = n
  · rw [if_pos e, e]; exact hv
  · rw [if_neg e]; exact h i
theorem GL.at_0 {f : Nat → Int32} (h : GL f) {n : Nat} {z : Int} (hn : (n : Int) = z) (h1 : 0 ≤ z) (h2 : z < 6) : 0 ≤ (f n).toInt ∧ (f n).toInt ≤ 39 := h n (0, 6, 0, 39) (by decide) (by show 0 ≤ n; omega) (by show n < 6; omega)
theorem GL.up_0 {f : Nat → Int32} (h : GL f) {n : Nat} {z : Int} (hn : (n : Int) = z) (h1 : 0 ≤ z) (h2 : z < 6) {v : Int32} {w : Int} (hv : v.toInt = w) (h3 : 0 ≤ w) (h4 : w ≤ 39) : GL (upd f n v) := by
  refine h.up (fun q hq k1 k2 => ?_)
  simp only [GLT, List.mem_cons, List.not_mem_nil, or_false] at hq
  rcases hq with rfl <;> simp only at k1 k2 ⊢ <;> omega
def DYT : List (Nat × Nat × Int × Int) := [(0, 40, 0, 100000000)]
/-- a value that may stand at a place -/
def DYv (j : Nat) (v : Int32) : Prop := ∀ q ∈ DYT, q.1 ≤ j → j < q.2.1 → q.2.2.1 ≤ v.toInt ∧ v.toInt ≤ q.2.2.2
def DY (f : Nat → Int32) : Prop := ∀ j : Nat, DYv j (f j)
theorem DY.up {f : Nat → Int32} (h : DY f) {n : Nat} {v : Int32} (hv : DYv n v) : DY (upd f n v) := by
  intro i
  unfold upd
  by_cases e : i = n
  · rw [if_pos e, e]; exact hv
  · rw [if_neg e]; exact h i
theorem DY.at_0 {f : Nat → Int32} (h : DY f) {n : Nat} {z : Int} (hn : (n : Int) = z) (h1 : 0 ≤ z) (h2 : z < 40) : 0 ≤ (f n).toInt ∧ (f n).toInt ≤ 100000000 := h n (0, 40, 0, 100000000) (by decide) (by show 0 ≤ n; omega) (by show n < 40; omega)
theorem DY.up_0 {f : Nat → Int32} (h : DY f) {n : Nat} {z : Int} (hn : (n : Int) = z) (h1 : 0 ≤ z) (h2 : z < 40) {v : Int32} {w : Int} (hv : v.toInt = w) (h3 : 0 ≤ w) (h4 : w ≤ 100000000) : DY (upd f n v) := by
  refine h.up (fun q hq k1 k2 => ?_)
  simp only [DYT, List.mem_cons, List.not_mem_nil, or_false] at hq
  rcases hq with rfl <;> simp only at k1 k2 ⊢ <;> omega
/-- the snapshots for undo -/
def UN (f : Nat → Int32) : Prop := ∀ m : Nat, RWv (7 + m % 106) (f m)
def UB (f : Nat → Int32) : Prop := ∀ m : Nat, RWv (7 + m % 106) (f m)
theorem UN.up {f : Nat → Int32} (h : UN f) {n : Nat} {v : Int32} (hv : RWv (7 + n % 106) v) : UN (upd f n v) := by
  intro i
  unfold upd
  by_cases e : i = n
  · rw [if_pos e, e]; exact hv
  · rw [if_neg e]; exact h i
theorem o_X12_canBe (a : Int32) (b : Int32) (Q : Int32 → Prop) (h : (if a = 0 then (wp_X12_in b.toInt64 0 3 (fun (r_10 : Int32) => (Q r_10))) else (if a = 1 then (wp_X12_in b.toInt64 1 9 (fun (r_27 : Int32) => (Q r_27))) else (if a = 2 then (wp_X12_in b.toInt64 0 99 (fun (r_44 : Int32) => (if r_44 = 0 then (Q 0) else (Q 1)))) else (Q 0))))) : wp_X12_canBe a b Q := h

theorem o_X12_canHaul (a : Int32) (f_row : Nat → Int32) (Q : Int32 → Prop) (h : (wp_X12_hasFound a (f_row) (fun (r_2 : Int32) => (if r_2 = 0 then (Q 0) else (if 9999 ≤ (f_row (7 : Int32).toNatClampNeg) then (Q 0) else (Q 1)))))) : wp_X12_canHaul a f_row Q := h

theorem o_X12_change (a : Int32) (b : Int32) (f_row : Nat → Int32) (Q : Int32 → (Int32 × (Nat → Int32)) → Prop) (h : (vp_in a 5650 ∧ (vp_in a 5650 ∧ (Q (f_row a.toNatClampNeg) (0, (upd f_row a.toNatClampNeg b)))))) : wp_X12_change a b f_row Q := h

theorem o_X12_hasFound (a : Int32) (f_row : Nat → Int32) (Q : Int32 → Prop) (h : (vp_in (10 + a) 5650 ∧ (vp_in (113 + (f_row (10 + a).toNatClampNeg)) 5650 ∧ (if (f_row (113 + (f_row (10 + a).toNatClampNeg)).toNatClampNeg) = 3 then (Q 1) else (Q 0))))) : wp_X12_hasFound a f_row Q := h

theorem o_X12_in (a : Int64) (b : Int64) (d : Int64) (Q : Int32 → Prop) (h : (if (lg_cmp a b) < 0 then (Q 0) else (if 0 < (lg_cmp a d) then (Q 0) else (Q 1)))) : wp_X12_in a b d Q := h

theorem o_X12_isCell (a : Int32) (Q : Int32 → Prop) (h : (wp_X12_in a.toInt64 0 39 (fun (r_6 : Int32) => (Q r_6)))) : wp_X12_isCell a Q := h

theorem o_X12_isColumn (a : Int32) (Q : Int32 → Prop) (h : (wp_X12_in a.toInt64 0 7 (fun (r_6 : Int32) => (Q r_6)))) : wp_X12_isColumn a Q := h

theorem o_X12_isEar (a : Int32) (f_row : Nat → Int32) (Q : Int32 → Prop) (h : (wp_X12_in a.toInt64 0 ((f_row (1 : Int32).toNatClampNeg).toInt64 - 1) (fun (r_12 : Int32) => (Q r_12)))) : wp_X12_isEar a f_row Q := h

theorem o_X12_isLaw (a : Int32) (f_row : Nat → Int32) (Q : Int32 → Prop) (h : (if a = (-1) then (Q 1) else (wp_X12_in a.toInt64 0 ((f_row (5 : Int32).toNatClampNeg).toInt64 - 1) (fun (r_17 : Int32) => (if r_17 = 0 then (Q 0) else (Q 1)))))) : wp_X12_isLaw a f_row Q := h

theorem o_X12_isNoise (a : Int32) (f_row : Nat → Int32) (Q : Int32 → Prop) (h : (wp_X12_in a.toInt64 0 ((f_row (2 : Int32).toNatClampNeg).toInt64 - 1) (fun (r_12 : Int32) => (Q r_12)))) : wp_X12_isNoise a f_row Q := h

theorem o_X12_isShaft (a : Int32) (f_row : Nat → Int32) (Q : Int32 → Prop) (h : (wp_X12_in a.toInt64 0 ((f_row (0 : Int32).toNatClampNeg).toInt64 - 1) (fun (r_12 : Int32) => (Q r_12)))) : wp_X12_isShaft a f_row Q := h

theorem o_X12_isSpoilt (a : Int32) (f_row : Nat → Int32) (Q : Int32 → Prop) (h : (vp_in (10 + a) 5650 ∧ (vp_in (113 + (f_row (10 + a).toNatClampNeg)) 5650 ∧ (if (f_row (113 + (f_row (10 + a).toNatClampNeg)).toNatClampNeg) = 2 then (Q 1) else (Q 0))))) : wp_X12_isSpoilt a f_row Q := h

theorem o_X12_mayDig (a : Int32) (f_row : Nat → Int32) (Q : Int32 → Prop) (h : (wp_X12_isSpoilt a (f_row) (fun (r_2 : Int32) => (if r_2 = 0 then (wp_X12_hasFound a (f_row) (fun (r_10 : Int32) => (if r_10 = 0 then (Q 1) else (Q 0)))) else (Q 0))))) : wp_X12_mayDig a f_row Q := h

theorem o_X12_placeOf (a : Int32) (Q : Int32 → Prop) (h : (if a = 0 then (Q 113) else (if a = 1 then (Q 153) else (Q 73)))) : wp_X12_placeOf a Q := h

theorem o_X12_settled (a : Int32) (h0_nUndo : Int32) (f_refusals : Nat → Int32) (Q : Int32 → (Int32 × Int32 × (Nat → Int32)) → Prop) (h : (if 0 ≤ a then (wp_X12_tell a (f_refusals) (fun (r_18 : Int32) => (un2 (fun (u_18_0 : Int32) (u_18_1 : Nat → Int32) => (Q r_18 (u_18_0, 0, u_18_1)))))) else (wp_X12_tell a (f_refusals) (fun (r_18 : Int32) => (un2 (fun (u_18_0 : Int32) (u_18_1 : Nat → Int32) => (Q r_18 (u_18_0, h0_nUndo, u_18_1)))))))) : wp_X12_settled a h0_nUndo f_refusals Q := h

theorem o_X12_within (a : Int64) (b : Int32) (d : Int32) (Q : Int32 → Prop) (h : (if 0 ≤ (lg_cmp a b.toInt64) then (if (lg_cmp a d.toInt64) ≤ 0 then (Q a.toInt32) else (Q d)) else (Q b))) : wp_X12_within a b d Q := h
end
section
/-! codes that are reckoned -/
def SGR (f : Nat → Int32) (law a b : Int32) : Prop := ∃ c pa pb : Nat, law.toInt + 98 = c ∧ a.toInt = pa ∧ b.toInt = pb ∧ pa ≤ pb ∧ pb ≤ 400 ∧ SG (fun i => f (c + 2 * i)) (fun i => f (c + 2 * i + 1)) pa pb
theorem ST.c {op ar : Nat → Int32} {ht : Nat → Nat} {b i : Nat} (h : ST op ar ht b i) {y z : Int32} (ey : y = op i) (ez : z = ar i) :
    (0 ≤ y.toInt ∧ y.toInt ≤ 9 ∧ ht (i + 1) = ht i + 1) ∨
    (20 ≤ y.toInt ∧ y.toInt ≤ 27 ∧ 2 ≤ ht i ∧ ht (i + 1) + 1 = ht i) ∨
    (y.toInt = 28 ∧ 1 ≤ ht i ∧ ht (i + 1) = ht i) ∨
    (29 ≤ y.toInt ∧ y.toInt ≤ 30 ∧ 1 ≤ ht i ∧ ht (i + 1) + 1 = ht i ∧ ∃ j : Nat, z.toInt = (j : Int) ∧ i < j ∧ j ≤ b ∧ ht j = ht i) := by
  subst ey; subst ez; exact h
/-- a clause of the law in force -/
def CWR (f : Nat → Int32) (law k : Int32) : Prop := ∃ c m : Nat, law.toInt + 98 = c ∧ k.toInt = m ∧ m ≤ 5000 ∧ CW f m c
theorem CWR.s1 {f : Nat → Int32} {law k : Int32} (h : CWR f law k) : SGR f law (f (k + 3).toNatClampNeg) (f (k + 4).toNatClampNeg) := by
  obtain ⟨c, m, e1, e2, e0, p3, p4, p5, p6, q3, q4, q5, q6, q7, q8, q9, q10, s1, s2⟩ := h
  have a3 : (k + 3).toInt = k.toInt + 3 := add_z rfl rfl (by omega) (by omega)
  have a4 : (k + 4).toInt = k.toInt + 4 := add_z rfl rfl (by omega) (by omega)
  have n3 : (k + 3).toNatClampNeg = m + 3 := by have := tnz (x := (k + 3).toInt) rfl (by omega); omega
  have n4 : (k + 4).toNatClampNeg = m + 4 := by have := tnz (x := (k + 4).toInt) rfl (by omega); omega
  rw [n3, n4]
  exact ⟨c, p3, p4, e1, q3, q4, q9, q7, s1⟩
theorem CWR.s2 {f : Nat → Int32} {law k : Int32} (h : CWR f law k) : SGR f law (f (k + 5).toNatClampNeg) (f (k + 6).toNatClampNeg) := by
  obtain ⟨c, m, e1, e2, e0, p3, p4, p5, p6, q3, q4, q5, q6, q7, q8, q9, q10, s1, s2⟩ := h
  have a3 : (k + 5).toInt = k.toInt + 5 := add_z rfl rfl (by omega) (by omega)
  have a4 : (k + 6).toInt = k.toInt + 6 := add_z rfl rfl (by omega) (by omega)
  have n3 : (k + 5).toNatClampNeg = m + 5 := by have := tnz (x := (k + 5).toInt) rfl (by omega); omega
  have n4 : (k + 6).toNatClampNeg = m + 6 := by have := tnz (x := (k + 6).toInt) rfl (by omega); omega
  rw [n3, n4]
  exact ⟨c, p5, p6, e1, q5, q6, q10, q8, s2⟩
theorem SGR.ra {f : Nat → Int32} {law a b : Int32} (h : SGR f law a b) : (0 ≤ a.toInt ∧ a.toInt ≤ 400) ∧ (0 ≤ b.toInt ∧ b.toInt ≤ 400) := by
  obtain ⟨c, pa, pb, e1, e2, e3, e4, e5, _⟩ := h
  omega
theorem LW.cl {f : Nat → Int32} (h : LW f) {law n c k : Int32} {m : Int} (hl : law.toInt = 250 + 900 * m) (h0 : 0 ≤ m) (h1 : m < 6) (hn : n = law + 1) (hc0 : 0 ≤ c.toInt) (hc : c.toInt < (f n.toNatClampNeg).toInt) (hk : k.toInt = law.toInt + 2 + 8 * c.toInt) : CWR f law k := by
  obtain ⟨M, rfl⟩ : ∃ M : Nat, (M : Int) = m := ⟨m.toNat, by omega⟩
  have a1 : n.toInt = law.toInt + 1 := by rw [hn]; exact add_z rfl rfl (by omega) (by omega)
  have n1 : n.toNatClampNeg = 251 + 900 * M := by have := tnz (x := n.toInt) rfl (by omega); omega
  rw [n1] at hc
  obtain ⟨g1, g2⟩ := h M (by omega)
  obtain ⟨C, hC⟩ : ∃ C : Nat, (C : Int) = c.toInt := ⟨c.toInt.toNat, by omega⟩
  refine ⟨348 + 900 * M, 252 + 900 * M + 8 * C, by omega, by omega, by omega, g2 C (by omega)⟩
theorem LW.n {f : Nat → Int32} (h : LW f) {law n : Int32} {m : Int} (hl : law.toInt = 250 + 900 * m) (h0 : 0 ≤ m) (h1 : m < 6) (hn : n = law + 1) : (f n.toNatClampNeg).toInt ≤ 12 := by
  obtain ⟨M, rfl⟩ : ∃ M : Nat, (M : Int) = m := ⟨m.toNat, by omega⟩
  have a1 : n.toInt = law.toInt + 1 := by rw [hn]; exact add_z rfl rfl (by omega) (by omega)
  have n1 : n.toNatClampNeg = 251 + 900 * M := by have := tnz (x := n.toInt) rfl (by omega); omega
  rw [n1]
  exact (h M (by omega)).1
end
section
/-! the reference₉s reader: its pile and its code -/
theorem tnN {x : Int32} {n : Nat} (h : x.toInt = (n : Int)) : x.toNatClampNeg = n := by
  have e : x.toNatClampNeg = x.toInt.toNat := rfl
  omega
/-- how many wait on the pile that take two, that write a code -/
def nbn (f : Nat → Int32) : Nat → Nat
  | 0 => 0
  | k + 1 => nbn f k + (if 20 ≤ (f k).toInt ∧ (f k).toInt ≤ 27 then 1 else 0)
def npd (f : Nat → Int32) : Nat → Nat
  | 0 => 0
  | k + 1 => npd f k + (if 20 ≤ (f k).toInt ∧ (f k).toInt ≤ 28 then 1 else 0)
theorem nbn_u {f : Nat → Int32} {n : Nat} {v : Int32} : ∀ k, k ≤ n → nbn (upd f n v) k = nbn f k := by
  intro k
  induction k with
  | zero => intro _; rfl
  | succ k ih =>
    intro h
    show nbn (upd f n v) k + _ = nbn f k + _
    rw [ih (by omega), pk_un (by omega)]
theorem npd_u {f : Nat → Int32} {n : Nat} {v : Int32} : ∀ k, k ≤ n → npd (upd f n v) k = npd f k := by
  intro k
  induction k with
  | zero => intro _; rfl
  | succ k ih =>
    intro h
    show npd (upd f n v) k + _ = npd f k + _
    rw [ih (by omega), pk_un (by omega)]
theorem nbn1 {f : Nat → Int32} {k : Nat} (h : 20 ≤ (f k).toInt ∧ (f k).toInt ≤ 27) : nbn f (k + 1) = nbn f k + 1 := by
  show nbn f k + _ = _
  rw [if_pos h]
theorem nbn0 {f : Nat → Int32} {k : Nat} (h : ¬ (20 ≤ (f k).toInt ∧ (f k).toInt ≤ 27)) : nbn f (k + 1) = nbn f k := by
  show nbn f k + _ = _
  rw [if_neg h]; rfl
theorem npd1 {f : Nat → Int32} {k : Nat} (h : 20 ≤ (f k).toInt ∧ (f k).toInt ≤ 28) : npd f (k + 1) = npd f k + 1 := by
  show npd f k + _ = _
  rw [if_pos h]
theorem npd0 {f : Nat → Int32} {k : Nat} (h : ¬ (20 ≤ (f k).toInt ∧ (f k).toInt ≤ 28)) : npd f (k + 1) = npd f k := by
  show npd f k + _ = _
  rw [if_neg h]; rfl
def dlt (o : Int32) : Int := if o.toInt < 20 then 1 else if o.toInt = 28 then 0 else -1
/-- how high the numbers stand ahead of a code -/
def hg (op : Nat → Int32) (s : Nat) : Nat → Int
  | 0 => 0
  | k + 1 => if k < s then 0 else hg op s k + dlt (op k)
theorem hg_u {f : Nat → Int32} {s n : Nat} {v : Int32} : ∀ k, k ≤ n → hg (upd f n v) s k = hg f s k := by
  intro k
  induction k with
  | zero => intro _; rfl
  | succ k ih =>
    intro h
    show (if k < s then 0 else hg (upd f n v) s k + dlt (upd f n v k)) = (if k < s then 0 else hg f s k + dlt (f k))
    rw [ih (by omega), pk_un (by omega)]
theorem hg_0 {f : Nat → Int32} {s : Nat} : ∀ k, k ≤ s → hg f s k = 0 := by
  intro k
  cases k with
  | zero => intro _; rfl
  | succ k =>
    intro h
    show (if k < s then 0 else hg f s k + dlt (f k)) = 0
    rw [if_pos (by omega)]
theorem hg_1 {f : Nat → Int32} {s k : Nat} (h : s ≤ k) : hg f s (k + 1) = hg f s k + dlt (f k) := by
  show (if k < s then 0 else hg f s k + dlt (f k)) = _
  rw [if_neg (by omega)]
def isJ (o : Int32) : Prop := 29 ≤ o.toInt ∧ o.toInt ≤ 30
/-- a code that is written: it can be reckoned, or waits on the pile for its aim -/
def CDo (op ar : Nat → Int32) (s n p : Nat) (pile pat : Nat → Int32) (i : Nat) : Prop :=
  (0 ≤ (op i).toInt ∧ (op i).toInt ≤ 9 ∧ 0 ≤ hg op s i) ∨ (20 ≤ (op i).toInt ∧ (op i).toInt ≤ 27 ∧ 2 ≤ hg op s i) ∨ ((op i).toInt = 28 ∧ 1 ≤ hg op s i) ∨
  (isJ (op i) ∧ 1 ≤ hg op s i ∧ ((∃ j : Nat, (ar i).toInt = (j : Int) ∧ i < j ∧ j ≤ n ∧ hg op s j = hg op s i) ∨ ∃ k, k < p ∧ isJ (pile k) ∧ (pat k).toInt = (i : Int)))
/-- the ranges alone -/
def PR (s n p fr : Nat) (pile pat : Nat → Int32) : Prop :=
  s ≤ n ∧ n + npd pile p ≤ fr ∧ p ≤ fr ∧ (∀ k, k < p → 20 ≤ (pile k).toInt ∧ (pile k).toInt ≤ 32) ∧ (∀ k, k < p → isJ (pile k) → ∃ i : Nat, (pat k).toInt = (i : Int) ∧ s ≤ i ∧ i < n)
/-- above a square bracket: sums alone -/
def PW (p : Nat) (pile : Nat → Int32) : Prop := ∀ j k, j < k → k < p → (pile j).toInt = 32 → (pile k).toInt ≤ 24 ∨ (pile k).toInt = 32
def PH (t s n p : Nat) (o0 a0 pile pat op ar : Nat → Int32) : Prop :=
  hg op s n = (nbn pile p : Int) + t ∧ (∀ i, s ≤ i → i < n → CDo op ar s n p pile pat i) ∧ (∀ k, k < p → isJ (pile k) → ∀ i : Nat, (pat k).toInt = (i : Int) → (isJ (op i) ∧ hg op s i = (nbn pile k : Int) + 1)) ∧ ∀ i, i < s → op i = o0 i ∧ ar i = a0 i
def PI (g : Prop) (t s n p fr : Nat) (o0 a0 pile pat op ar : Nat → Int32) : Prop := PR s n p fr pile pat ∧ PW p pile ∧ (g → PH t s n p o0 a0 pile pat op ar)
theorem PI.weak {g : Prop} {t s n p fr : Nat} {o0 a0 pile pat op ar : Nat → Int32} (h : PI g t s n p fr o0 a0 pile pat op ar) {g₉ : Prop} (hg : ¬ g₉) (t₉ : Nat) : PI g₉ t₉ s n p fr o0 a0 pile pat op ar := ⟨h.1, h.2.1, fun q => (hg q).elim⟩
theorem PI.more {g : Prop} {t s n p fr : Nat} {o0 a0 pile pat op ar : Nat → Int32} (h : PI g t s n p fr o0 a0 pile pat op ar) {fr₉ : Nat} (hf : fr ≤ fr₉) : PI g t s n p fr₉ o0 a0 pile pat op ar :=
  ⟨⟨h.1.1, by have := h.1.2.1; omega, by have := h.1.2.2.1; omega, h.1.2.2.2⟩, h.2⟩
theorem PI.start (g : Prop) {n fr : Nat} (h : n ≤ fr) (pile pat op ar : Nat → Int32) : PI g 0 n n 0 fr op ar pile pat op ar := by
  refine ⟨⟨Nat.le_refl n, by show n + 0 ≤ fr; omega, by omega, fun k h => by omega, fun k h => by omega⟩, fun j k _ h => by omega, fun _ => ⟨?_, fun i h1 h2 => by omega, fun k h => by omega, fun _ _ => ⟨rfl, rfl⟩⟩⟩
  rw [hg_0 n (Nat.le_refl n)]; rfl
/-- a code is written that no pile knows -/
theorem CDo.emit {op ar : Nat → Int32} {s n p : Nat} {pile pat : Nat → Int32} {i : Nat} (h : CDo op ar s n p pile pat i) (hi : i < n) {v w : Int32} : CDo (upd op n v) (upd ar n w) s (n + 1) p pile pat i := by
  unfold CDo at h ⊢
  rw [pk_un (by omega), pk_un (by omega), hg_u i (by omega)]
  rcases h with h | h | h | ⟨h1, h2, h3⟩
  · exact Or.inl h
  · exact Or.inr (Or.inl h)
  · exact Or.inr (Or.inr (Or.inl h))
  · refine Or.inr (Or.inr (Or.inr ⟨h1, h2, ?_⟩))
    rcases h3 with ⟨j, q1, q2, q3, q4⟩ | h3
    · refine Or.inl ⟨j, q1, q2, by omega, ?_⟩
      rw [hg_u j q3]; exact q4
    · exact Or.inr h3
theorem CDo.pile {op ar : Nat → Int32} {s n p p₉ : Nat} {pile pat pile₉ pat₉ : Nat → Int32} {i : Nat} (h : CDo op ar s n p pile pat i) (hp : ∀ k, k < p → isJ (pile k) → k < p₉ ∧ pile₉ k = pile k ∧ pat₉ k = pat k) : CDo op ar s n p₉ pile₉ pat₉ i := by
  rcases h with h | h | h | ⟨h1, h2, h3⟩
  · exact Or.inl h
  · exact Or.inr (Or.inl h)
  · exact Or.inr (Or.inr (Or.inl h))
  · refine Or.inr (Or.inr (Or.inr ⟨h1, h2, ?_⟩))
    rcases h3 with h3 | ⟨k, k1, k2, k3⟩
    · exact Or.inl h3
    · obtain ⟨e1, e2, e3⟩ := hp k k1 k2
      exact Or.inr ⟨k, e1, by rw [e2]; exact k2, by rw [e3]; exact k3⟩
/-- a number, a word -/
theorem PI.leaf {g : Prop} {s n p fr : Nat} {o0 a0 pile pat op ar : Nat → Int32} (h : PI g 0 s n p fr o0 a0 pile pat op ar) {v : Int32} (w : Int32) (h0 : 0 ≤ v.toInt) (h1 : v.toInt ≤ 9) {fr₉ : Nat} (hf : fr < fr₉) : PI g 1 s (n + 1) p fr₉ o0 a0 pile pat (upd op n v) (upd ar n w) := by
  obtain ⟨⟨a1, a2, a3, a4, a5⟩, b, c⟩ := h
  refine ⟨⟨by omega, by omega, by omega, a4, fun k hk hj => ?_⟩, b, fun q => ?_⟩
  · obtain ⟨i, e1, e2, e3⟩ := a5 k hk hj
    exact ⟨i, e1, e2, by omega⟩
  · obtain ⟨c1, c2, c3, c4⟩ := c q
    refine ⟨?_, fun i i1 i2 => ?_, fun k hk hj i hi => ?_, fun i hi => by rw [pk_un (by omega), pk_un (by omega)]; exact c4 i hi⟩
    · rw [hg_1 a1, hg_u n (Nat.le_refl n), pk_us, c1]
      unfold dlt
      rw [if_pos (by omega)]
      omega
    · by_cases e : i = n
      · subst e
        left
        rw [pk_us, hg_u i (Nat.le_refl i), c1]
        omega
      · exact (c2 i i1 (by omega)).emit (by omega)
    · obtain ⟨i₉, e1, e2, e3⟩ := a5 k hk hj
      obtain rfl : i = i₉ := by omega
      rw [pk_un (by omega), hg_u i (by omega)]
      exact c3 k hk hj i hi
/-- what a leaf has beside it is put in later -/
theorem PI.arg {g : Prop} {t s n p fr : Nat} {o0 a0 pile pat op ar : Nat → Int32} (h : PI g t s (n + 1) p fr o0 a0 pile pat op ar) (hs : s ≤ n) (h1 : (op n).toInt ≤ 9) (w : Int32) : PI g t s (n + 1) p fr o0 a0 pile pat op (upd ar n w) := by
  obtain ⟨a, b, c⟩ := h
  refine ⟨a, b, fun q => ?_⟩
  obtain ⟨c1, c2, c3, c4⟩ := c q
  refine ⟨c1, fun i i1 i2 => ?_, c3, fun i hi => by rw [pk_un (by omega)]; exact c4 i hi⟩
  have h2 := c2 i i1 i2
  rcases h2 with h | h | h | ⟨h1₉, h2, h3⟩
  · exact Or.inl h
  · exact Or.inr (Or.inl h)
  · exact Or.inr (Or.inr (Or.inl h))
  · have e : i ≠ n := fun e => by subst e; unfold isJ at h1₉; omega
    refine Or.inr (Or.inr (Or.inr ⟨h1₉, h2, ?_⟩))
    rw [pk_un e]; exact h3
/-- one that writes a code goes off the pile -/
theorem PI.popc {g : Prop} {s n p fr : Nat} {o0 a0 pile pat op ar : Nat → Int32} (h : PI g 1 s n (p + 1) fr o0 a0 pile pat op ar) (h0 : 20 ≤ (pile p).toInt) (h1 : (pile p).toInt ≤ 28) : PI g 1 s (n + 1) p fr o0 a0 pile pat (upd op n (pile p)) (upd ar n 0) := by
  obtain ⟨⟨a1, a2, a3, a4, a5⟩, b, c⟩ := h
  rw [npd1 ⟨h0, h1⟩] at a2
  refine ⟨⟨by omega, by omega, by omega, fun k hk => a4 k (by omega), fun k hk hj => ?_⟩, fun j k hj hk => b j k hj (by omega), fun q => ?_⟩
  · obtain ⟨i, e1, e2, e3⟩ := a5 k (by omega) hj
    exact ⟨i, e1, e2, by omega⟩
  · obtain ⟨c1, c2, c3, c4⟩ := c q
    refine ⟨?_, fun i i1 i2 => ?_, fun k hk hj i hi => ?_, fun i hi => by rw [pk_un (by omega), pk_un (by omega)]; exact c4 i hi⟩
    · rw [hg_1 a1, hg_u n (Nat.le_refl n), pk_us, c1]
      unfold dlt
      rw [if_neg (by omega)]
      by_cases e : (pile p).toInt = 28
      · rw [if_pos e, nbn0 (by omega)]; omega
      · rw [if_neg e, nbn1 (by omega)]; omega
    · by_cases e : i = n
      · subst e
        right
        rw [pk_us, hg_u i (Nat.le_refl i), c1]
        by_cases e : (pile p).toInt = 28
        · right; left; exact ⟨e, by omega⟩
        · left; rw [nbn1 (by omega)]; omega
      · refine ((c2 i i1 (by omega)).emit (by omega)).pile (fun k k1 k2 => ⟨?_, rfl, rfl⟩)
        have e2 : k ≠ p := fun e => by subst e; unfold isJ at k2; omega
        omega
    · obtain ⟨i₉, e1, e2, e3⟩ := a5 k (by omega) hj
      obtain rfl : i = i₉ := by omega
      rw [pk_un (by omega), hg_u i (by omega)]
      exact c3 k (by omega) hj i hi
/-- an and, an or goes off the pile: its code gets its aim -/
theorem PI.popj {g : Prop} {s n p fr : Nat} {o0 a0 pile pat op ar : Nat → Int32} (h : PI g 1 s n (p + 1) fr o0 a0 pile pat op ar) (hj : isJ (pile p)) {i : Nat} (hi : (pat p).toInt = (i : Int)) {w : Int32} (hw : w.toInt = (n : Int)) : PI g 1 s n p fr o0 a0 pile pat op (upd ar i w) := by
  obtain ⟨⟨a1, a2, a3, a4, a5⟩, b, c⟩ := h
  have hz : ¬ (20 ≤ (pile p).toInt ∧ (pile p).toInt ≤ 27) := by unfold isJ at hj; omega
  rw [npd0 (by unfold isJ at hj; omega)] at a2
  refine ⟨⟨a1, by omega, by omega, fun k hk => a4 k (by omega), fun k hk hj => a5 k (by omega) hj⟩, fun j k hj hk => b j k hj (by omega), fun q => ?_⟩
  obtain ⟨c1, c2, c3, c4⟩ := c q
  rw [nbn0 hz] at c1
  obtain ⟨i₉, e1, e2, e3⟩ := a5 p (by omega) hj
  obtain rfl : i = i₉ := by omega
  obtain ⟨d1, d2⟩ := c3 p (by omega) hj i hi
  refine ⟨c1, fun x x1 x2 => ?_, fun k hk hj => c3 k (by omega) hj, fun x hx => by rw [pk_un (by omega)]; exact c4 x hx⟩
  by_cases e : x = i
  · subst e
    refine Or.inr (Or.inr (Or.inr ⟨d1, by omega, Or.inl ⟨n, ?_, by omega, Nat.le_refl n, by omega⟩⟩))
    rw [pk_us]; exact hw
  · rcases c2 x x1 x2 with h | h | h | ⟨h1, h2, h3⟩
    · exact Or.inl h
    · exact Or.inr (Or.inl h)
    · exact Or.inr (Or.inr (Or.inl h))
    · refine Or.inr (Or.inr (Or.inr ⟨h1, h2, ?_⟩))
      rw [pk_un e]
      rcases h3 with h3 | ⟨k, k1, k2, k3⟩
      · exact Or.inl h3
      · have : k ≠ p := fun e => by subst e; omega
        exact Or.inr ⟨k, by omega, k2, k3⟩
/-- one more on the pile that is no and, no or -/
theorem PI.push {g : Prop} {t t₉ s n p fr : Nat} {o0 a0 pile pat op ar : Nat → Int32} (h : PI g t s n p fr o0 a0 pile pat op ar) {v : Int32} (w : Int32) (h0 : 20 ≤ v.toInt) (h1 : v.toInt ≤ 32) (hj : ¬ isJ v) (ht : t₉ + (if v.toInt ≤ 27 then 1 else 0) = t) (hw : v.toInt ≤ 24 ∨ v.toInt = 32 ∨ ∀ k, k < p → (pile k).toInt ≠ 32) {fr₉ : Nat} (hf : fr < fr₉) : PI g t₉ s n (p + 1) fr₉ o0 a0 (upd pile p v) (upd pat p w) op ar := by
  obtain ⟨⟨a1, a2, a3, a4, a5⟩, b, c⟩ := h
  have hn : npd (upd pile p v) (p + 1) ≤ npd pile p + 1 := by
    show npd (upd pile p v) p + _ ≤ _
    rw [npd_u p (Nat.le_refl p)]
    split <;> omega
  refine ⟨⟨a1, by omega, by omega, fun k hk => ?_, fun k hk hk2 => ?_⟩, fun j k hjk hk hj2 => ?_, fun q => ?_⟩
  · by_cases e : k = p
    · subst e; rw [pk_us]; exact ⟨h0, h1⟩
    · rw [pk_un e]; exact a4 k (by omega)
  · by_cases e : k = p
    · subst e; rw [pk_us] at hk2; exact (hj hk2).elim
    · rw [pk_un e] at hk2 ⊢; exact a5 k (by omega) hk2
  · rw [pk_un (by omega)] at hj2
    by_cases e : k = p
    · subst e; rw [pk_us]
      rcases hw with hw | hw | hw
      · exact Or.inl hw
      · exact Or.inr hw
      · exact (hw j hjk hj2).elim
    · rw [pk_un e]; exact b j k hjk (by omega) hj2
  · obtain ⟨c1, c2, c3, c4⟩ := c q
    refine ⟨?_, fun i i1 i2 => (c2 i i1 i2).pile (fun k k1 k2 => ⟨by omega, pk_un (by omega), pk_un (by omega)⟩), fun k hk hk2 i hi => ?_, c4⟩
    · rw [c1]
      by_cases e : v.toInt ≤ 27
      · rw [nbn1 (by rw [pk_us]; omega), nbn_u p (Nat.le_refl p)]
        rw [if_pos e] at ht; omega
      · rw [nbn0 (by rw [pk_us]; omega), nbn_u p (Nat.le_refl p)]
        rw [if_neg e] at ht; omega
    · have e : k ≠ p := fun e => by subst e; rw [pk_us] at hk2; exact hj hk2
      rw [pk_un e] at hk2 hi
      rw [nbn_u k (by omega)]
      exact c3 k (by omega) hk2 i hi
/-- a bracket goes off -/
theorem PI.close {g : Prop} {s n p fr : Nat} {o0 a0 pile pat op ar : Nat → Int32} (h : PI g 1 s n (p + 1) fr o0 a0 pile pat op ar) (hb : 31 ≤ (pile p).toInt) : PI g 1 s n p fr o0 a0 pile pat op ar := by
  obtain ⟨⟨a1, a2, a3, a4, a5⟩, b, c⟩ := h
  rw [npd0 (by omega)] at a2
  refine ⟨⟨a1, by omega, by omega, fun k hk => a4 k (by omega), fun k hk hj => a5 k (by omega) hj⟩, fun j k hj hk => b j k hj (by omega), fun q => ?_⟩
  obtain ⟨c1, c2, c3, c4⟩ := c q
  rw [nbn0 (by omega)] at c1
  refine ⟨c1, fun i i1 i2 => (c2 i i1 i2).pile (fun k k1 k2 => ⟨?_, rfl, rfl⟩), fun k hk hj => c3 k (by omega) hj, c4⟩
  have : k ≠ p := fun e => by subst e; unfold isJ at k2; omega
  omega
/-- an and, an or -/
theorem PI.join {g : Prop} {s n p fr : Nat} {o0 a0 pile pat op ar : Nat → Int32} (h : PI g 1 s n p fr o0 a0 pile pat op ar) {v w : Int32} (hj : isJ v) (hw : w.toInt = (n : Int)) (hs : ∀ k, k < p → (pile k).toInt ≠ 32) {fr₉ : Nat} (hf : fr < fr₉) : PI g 0 s (n + 1) (p + 1) fr₉ o0 a0 (upd pile p v) (upd pat p w) (upd op n v) (upd ar n 0) := by
  obtain ⟨⟨a1, a2, a3, a4, a5⟩, b, c⟩ := h
  have hv : 29 ≤ v.toInt ∧ v.toInt ≤ 30 := hj
  have hn : npd (upd pile p v) (p + 1) = npd pile p := by
    rw [npd0 (by rw [pk_us]; omega), npd_u p (Nat.le_refl p)]
  refine ⟨⟨by omega, by omega, by omega, fun k hk => ?_, fun k hk hk2 => ?_⟩, fun j k hjk hk hj2 => ?_, fun q => ?_⟩
  · by_cases e : k = p
    · subst e; rw [pk_us]; omega
    · rw [pk_un e]; exact a4 k (by omega)
  · by_cases e : k = p
    · subst e; rw [pk_us]; exact ⟨n, hw, a1, by omega⟩
    · rw [pk_un e] at hk2 ⊢
      obtain ⟨i, e1, e2, e3⟩ := a5 k (by omega) hk2
      exact ⟨i, e1, e2, by omega⟩
  · rw [pk_un (by omega)] at hj2
    exact (hs j (by omega) hj2).elim
  · obtain ⟨c1, c2, c3, c4⟩ := c q
    refine ⟨?_, fun i i1 i2 => ?_, fun k hk hk2 i hi => ?_, fun i hi => by rw [pk_un (by omega), pk_un (by omega)]; exact c4 i hi⟩
    · rw [hg_1 a1, hg_u n (Nat.le_refl n), pk_us, c1, nbn0 (by rw [pk_us]; omega), nbn_u p (Nat.le_refl p)]
      unfold dlt
      rw [if_neg (by omega), if_neg (by omega)]
      omega
    · by_cases e : i = n
      · subst e
        refine Or.inr (Or.inr (Or.inr ⟨by rw [pk_us]; exact hj, by rw [hg_u i (Nat.le_refl i), c1]; omega, Or.inr ⟨p, by omega, by rw [pk_us]; exact hj, by rw [pk_us]; exact hw⟩⟩))
      · exact ((c2 i i1 (by omega)).emit (by omega)).pile (fun k k1 k2 => ⟨by omega, pk_un (by omega), pk_un (by omega)⟩)
    · by_cases e : k = p
      · subst e
        rw [pk_us] at hi
        obtain rfl : i = n := by omega
        rw [pk_us, hg_u i (Nat.le_refl i), c1, nbn_u k (Nat.le_refl k)]
        exact ⟨hj, by omega⟩
      · rw [pk_un e] at hk2 hi
        obtain ⟨i₉, e1, e2, e3⟩ := a5 k (by omega) hk2
        obtain rfl : i = i₉ := by omega
        rw [pk_un (by omega), hg_u i (by omega), nbn_u k (by omega)]
        exact c3 k (by omega) hk2 i hi
/-- nothing waits: the code can be reckoned -/
theorem PI.done {g : Prop} {t s n fr : Nat} {o0 a0 pile pat op ar : Nat → Int32} (h : PI g t s n 0 fr o0 a0 pile pat op ar) (hg₉ : g) : SG op ar s n := by
  obtain ⟨-, -, c⟩ := h
  obtain ⟨c1, c2, c3, -⟩ := c hg₉
  refine ⟨fun i => (hg op s i).toNat, ?_, fun i i1 i2 => ?_⟩
  · show (hg op s s).toNat = 0
    rw [hg_0 s (Nat.le_refl s)]; rfl
  · have e := hg_1 (f := op) (s := s) i1
    unfold ST
    simp only
    rw [e]
    unfold dlt
    rcases c2 i i1 i2 with h | h | h | ⟨h1, h2, h3⟩
    · left; rw [if_pos (by omega)]; omega
    · right; left; rw [if_neg (by omega), if_neg (by omega)]; omega
    · right; right; left; rw [if_neg (by omega), if_pos h.1]; omega
    · right; right; right
      have hj : 29 ≤ (op i).toInt ∧ (op i).toInt ≤ 30 := h1
      rw [if_neg (by omega), if_neg (by omega)]
      rcases h3 with ⟨j, q1, q2, q3, q4⟩ | ⟨k, k1, _⟩
      · exact ⟨hj.1, hj.2, by omega, by omega, j, q1, q2, q3, by rw [q4]⟩
      · omega
theorem PI.low {g : Prop} {t s n p fr : Nat} {o0 a0 pile pat op ar : Nat → Int32} (h : PI g t s n p fr o0 a0 pile pat op ar) (hg₉ : g) : ∀ i, i < s → op i = o0 i ∧ ar i = a0 i := (h.2.2 hg₉).2.2.2
end
section
/-! the reference₉s reader: tokens -/
theorem li_1 {x : Int32} {hi : Int} (h : x.toInt < hi) (h2 : hi ≤ 2147483647) : (x + 1).toInt = x.toInt + 1 := add_z rfl rfl (by have := i32_lo x; omega) (by omega)
def Tk (taped fr to sort : Int32) : Prop := 0 ≤ fr.toInt ∧ fr.toInt ≤ to.toInt ∧ to.toInt ≤ taped.toInt ∧ taped.toInt ≤ 400 ∧ 0 ≤ sort.toInt ∧ sort.toInt ≤ 3 ∧ (¬ sort = 0 → fr.toInt < to.toInt)
theorem e_isSmall {a : Int32} {Q : Int32 → Prop} (h1 : 97 ≤ a.toInt → a.toInt ≤ 122 → Q 1) (h0 : ¬ (97 ≤ a.toInt ∧ a.toInt ≤ 122) → Q 0) : wp_X12_isSmall a Q := by
  unfold wp_X12_isSmall
  by_cases c : a < 97
  · refine br1 c (h0 ?_)
    have := lt_z (y := 97) rfl rfl c; omega
  · refine br0 c ?_
    have c2 := nlt_z (y := 97) rfl rfl c
    by_cases d : 122 < a
    · refine br1 d (h0 ?_)
      have := lt_z (x := 122) rfl rfl d; omega
    · refine br0 d (h1 c2 ?_)
      exact nlt_z (x := 122) rfl rfl d
theorem e_isDigit {a : Int32} {Q : Int32 → Prop} (h1 : 48 ≤ a.toInt → a.toInt ≤ 57 → Q 1) (h0 : ¬ (48 ≤ a.toInt ∧ a.toInt ≤ 57) → Q 0) : wp_X12_isDigit a Q := by
  unfold wp_X12_isDigit
  by_cases c : a < 48
  · refine br1 c (h0 ?_)
    have := lt_z (y := 48) rfl rfl c; omega
  · refine br0 c ?_
    have c2 := nlt_z (y := 48) rfl rfl c
    by_cases d : 57 < a
    · refine br1 d (h0 ?_)
      have := lt_z (x := 57) rfl rfl d; omega
    · refine br0 d (h1 c2 ?_)
      exact nlt_z (x := 57) rfl rfl d
theorem e_isWord {a : Int64} {sort : Int32} {worth : Int64} {Q : Int32 → Prop} (h1 : sort = 1 → worth = a → Q 1) (h0 : Q 0) : wp_X12_isWord a sort worth Q := by
  unfold wp_X12_isWord
  by_cases c : sort = 1
  · refine br1 c ?_
    by_cases d : lg_cmp worth a = 0
    · refine br1 d (h1 c ?_)
      exact Int64.toInt_inj.mp (cmp_eq.mp d)
    · exact br0 d h0
  · exact br0 c h0
theorem e_isSign {a : Int32} {sort : Int32} {worth : Int64} {Q : Int32 → Prop} (h1 : sort = 3 → worth = a.toInt64 → Q 1) (h0 : Q 0) : wp_X12_isSign a sort worth Q := by
  unfold wp_X12_isSign
  by_cases c : sort = 3
  · refine br1 c ?_
    by_cases d : lg_cmp worth a.toInt64 = 0
    · refine br1 d (h1 c ?_)
      exact Int64.toInt_inj.mp (cmp_eq.mp d)
    · exact br0 d h0
  · exact br0 c h0
theorem nz_of {sort v : Int32} (h : sort = v) (hv : ¬ v = 0) : ¬ sort = 0 := by rw [h]; exact hv
theorem sl_nt8 {taped : Int32} {tape : Nat → Int32} (h2 : taped.toInt ≤ 400) {lo : Int} (hlo : 0 ≤ lo) {Qb : Int32 → Prop} (K : ∀ x : Int32, lo ≤ x.toInt → x.toInt ≤ taped.toInt → Qb x) : ∀ (n : Nat) (x : Int32), lo ≤ x.toInt → x.toInt ≤ taped.toInt → taped.toInt - x.toInt < n → wl_X12_nextToken_8 taped tape Qb n x := by
  intro n
  induction n with
  | zero => intro x a b c; exfalso; have c : taped.toInt - x.toInt < 0 := c; omega
  | succ n ih =>
    intro x a b c
    unfold wl_X12_nextToken_8
    by_cases d : taped ≤ x
    · exact br1 d (K x a b)
    · refine br0 d ?_
      have d₉ := nle_z rfl rfl d
      refine ⟨vpi rfl (by omega) (by omega), ?_⟩
      by_cases e : tape x.toNatClampNeg = 32
      · refine br1 e ?_
        have e1 := li_1 (x := x) (hi := 400) (by omega) (by omega)
        exact ih (x + 1) (by omega) (by omega) (by omega)
      · exact br0 e (K x a b)
theorem sl_nt149 {taped x8 y : Int32} {tape : Nat → Int32} (h2 : taped.toInt ≤ 400) {Qb : Int32 → Int64 → Prop} : ∀ (n : Nat) (x : Int32) (w : Int64), 0 ≤ x.toInt → x.toInt ≤ taped.toInt → taped.toInt - x.toInt < n → (∀ (x₉ : Int32) (w₉ : Int64), x.toInt ≤ x₉.toInt → x₉.toInt ≤ taped.toInt → (y = 1 → x.toInt < taped.toInt → 97 ≤ (tape x.toNatClampNeg).toInt → (tape x.toNatClampNeg).toInt ≤ 122 → x.toInt < x₉.toInt) → Qb x₉ w₉) → wl_X12_nextToken_149 taped tape x8 y Qb n x w := by
  intro n
  induction n with
  | zero => intro x w a b c K; exfalso; have c : taped.toInt - x.toInt < 0 := c; omega
  | succ n ih =>
    intro x w a b c K
    unfold wl_X12_nextToken_149
    by_cases f : y = 1
    · refine br1 f ?_
      by_cases d : taped ≤ x
      · refine br1 d (K x w (by omega) b (fun _ q => ?_))
        have := le_z rfl rfl d; omega
      · refine br0 d ?_
        have d₉ := nle_z rfl rfl d
        have e1 := li_1 (x := x) (hi := 400) (by omega) (by omega)
        refine ⟨vpi rfl (by omega) (by omega), e_isSmall (fun s1 s2 => ?_) (fun s0 => ?_)⟩
        · refine br0 (by decide) ?_
          by_cases z : 10 ≤ x - x8
          · exact br1 z (ih (x + 1) _ (by omega) (by omega) (by omega) (fun x₉ w₉ k1 k2 _ => K x₉ w₉ (by omega) k2 (fun _ _ _ _ => by omega)))
          · exact br0 z ⟨vpi rfl (by omega) (by omega), ih (x + 1) _ (by omega) (by omega) (by omega) (fun x₉ w₉ k1 k2 _ => K x₉ w₉ (by omega) k2 (fun _ _ _ _ => by omega))⟩
        · exact br1 rfl (K x w (by omega) b (fun _ _ q1 q2 => (s0 ⟨q1, q2⟩).elim))
    · exact br0 f (K x w (by omega) b (fun q => (f q).elim))
theorem sl_nt243 {taped y : Int32} {tape : Nat → Int32} (h2 : taped.toInt ≤ 400) {Qb : Int32 → Int64 → Prop} : ∀ (n : Nat) (x : Int32) (w : Int64), 0 ≤ x.toInt → x.toInt ≤ taped.toInt → taped.toInt - x.toInt < n → (∀ (x₉ : Int32) (w₉ : Int64), x.toInt ≤ x₉.toInt → x₉.toInt ≤ taped.toInt → (y = 2 → x.toInt < taped.toInt → 48 ≤ (tape x.toNatClampNeg).toInt → (tape x.toNatClampNeg).toInt ≤ 57 → x.toInt < x₉.toInt) → Qb x₉ w₉) → wl_X12_nextToken_243 taped tape y Qb n x w := by
  intro n
  induction n with
  | zero => intro x w a b c K; exfalso; have c : taped.toInt - x.toInt < 0 := c; omega
  | succ n ih =>
    intro x w a b c K
    unfold wl_X12_nextToken_243
    by_cases f : y = 2
    · refine br1 f ?_
      by_cases d : taped ≤ x
      · refine br1 d (K x w (by omega) b (fun _ q => ?_))
        have := le_z rfl rfl d; omega
      · refine br0 d ?_
        have d₉ := nle_z rfl rfl d
        have e1 := li_1 (x := x) (hi := 400) (by omega) (by omega)
        refine ⟨vpi rfl (by omega) (by omega), e_isDigit (fun s1 s2 => ?_) (fun s0 => ?_)⟩
        · refine br0 (by decide) ?_
          by_cases z : lg_cmp w 1000000 ≤ 0
          · exact br1 z ⟨vpi rfl (by omega) (by omega), ih (x + 1) _ (by omega) (by omega) (by omega) (fun x₉ w₉ k1 k2 _ => K x₉ w₉ (by omega) k2 (fun _ _ _ _ => by omega))⟩
          · exact br0 z (ih (x + 1) _ (by omega) (by omega) (by omega) (fun x₉ w₉ k1 k2 _ => K x₉ w₉ (by omega) k2 (fun _ _ _ _ => by omega)))
        · exact br1 rfl (K x w (by omega) b (fun _ _ q1 q2 => (s0 ⟨q1, q2⟩).elim))
    · exact br0 f (K x w (by omega) b (fun q => (f q).elim))
theorem sl_nt149a {taped x8 y : Int32} {tape : Nat → Int32} (h2 : taped.toInt ≤ 400) {Qb : Int32 → Int64 → Prop} : ∀ (n : Nat) (x : Int32) (w : Int64), 0 ≤ x.toInt → x.toInt ≤ taped.toInt → taped.toInt - x.toInt < n → (∀ (x₉ : Int32) (w₉ : Int64), x.toInt ≤ x₉.toInt → x₉.toInt ≤ taped.toInt → (y = 1 → x.toInt < taped.toInt → 97 ≤ (tape x.toNatClampNeg).toInt → (tape x.toNatClampNeg).toInt ≤ 122 → x.toInt < x₉.toInt) → Qb x₉ w₉) → wl_X12_nextToken_149a taped tape x8 y Qb n x w := by
  intro n
  induction n with
  | zero => intro x w a b c K; exfalso; have c : taped.toInt - x.toInt < 0 := c; omega
  | succ n ih =>
    intro x w a b c K
    unfold wl_X12_nextToken_149a
    by_cases f : y = 1
    · refine br1 f ?_
      by_cases d : taped ≤ x
      · refine br1 d (K x w (by omega) b (fun _ q => ?_))
        have := le_z rfl rfl d; omega
      · refine br0 d ?_
        have d₉ := nle_z rfl rfl d
        have e1 := li_1 (x := x) (hi := 400) (by omega) (by omega)
        refine ⟨vpi rfl (by omega) (by omega), e_isSmall (fun s1 s2 => ?_) (fun s0 => ?_)⟩
        · refine br0 (by decide) ?_
          by_cases z : 10 ≤ x - x8
          · exact br1 z (ih (x + 1) _ (by omega) (by omega) (by omega) (fun x₉ w₉ k1 k2 _ => K x₉ w₉ (by omega) k2 (fun _ _ _ _ => by omega)))
          · exact br0 z ⟨vpi rfl (by omega) (by omega), ih (x + 1) _ (by omega) (by omega) (by omega) (fun x₉ w₉ k1 k2 _ => K x₉ w₉ (by omega) k2 (fun _ _ _ _ => by omega))⟩
        · exact br1 rfl (K x w (by omega) b (fun _ _ q1 q2 => (s0 ⟨q1, q2⟩).elim))
    · exact br0 f (K x w (by omega) b (fun q => (f q).elim))
theorem sl_nt243a {taped y : Int32} {tape : Nat → Int32} (h2 : taped.toInt ≤ 400) {Qb : Int32 → Int64 → Prop} : ∀ (n : Nat) (x : Int32) (w : Int64), 0 ≤ x.toInt → x.toInt ≤ taped.toInt → taped.toInt - x.toInt < n → (∀ (x₉ : Int32) (w₉ : Int64), x.toInt ≤ x₉.toInt → x₉.toInt ≤ taped.toInt → (y = 2 → x.toInt < taped.toInt → 48 ≤ (tape x.toNatClampNeg).toInt → (tape x.toNatClampNeg).toInt ≤ 57 → x.toInt < x₉.toInt) → Qb x₉ w₉) → wl_X12_nextToken_243a taped tape y Qb n x w := by
  intro n
  induction n with
  | zero => intro x w a b c K; exfalso; have c : taped.toInt - x.toInt < 0 := c; omega
  | succ n ih =>
    intro x w a b c K
    unfold wl_X12_nextToken_243a
    by_cases f : y = 2
    · refine br1 f ?_
      by_cases d : taped ≤ x
      · refine br1 d (K x w (by omega) b (fun _ q => ?_))
        have := le_z rfl rfl d; omega
      · refine br0 d ?_
        have d₉ := nle_z rfl rfl d
        have e1 := li_1 (x := x) (hi := 400) (by omega) (by omega)
        refine ⟨vpi rfl (by omega) (by omega), e_isDigit (fun s1 s2 => ?_) (fun s0 => ?_)⟩
        · refine br0 (by decide) ?_
          by_cases z : lg_cmp w 1000000 ≤ 0
          · exact br1 z ⟨vpi rfl (by omega) (by omega), ih (x + 1) _ (by omega) (by omega) (by omega) (fun x₉ w₉ k1 k2 _ => K x₉ w₉ (by omega) k2 (fun _ _ _ _ => by omega))⟩
          · exact br0 z (ih (x + 1) _ (by omega) (by omega) (by omega) (fun x₉ w₉ k1 k2 _ => K x₉ w₉ (by omega) k2 (fun _ _ _ _ => by omega)))
        · exact br1 rfl (K x w (by omega) b (fun _ _ q1 q2 => (s0 ⟨q1, q2⟩).elim))
    · exact br0 f (K x w (by omega) b (fun q => (f q).elim))
theorem s_nextToken {taped to : Int32} {tape : Nat → Int32} (h0 : 0 ≤ to.toInt) (h1 : to.toInt ≤ taped.toInt) (h2 : taped.toInt ≤ 400) {Q : (Int32 × Int32 × Int32 × Int64) → Prop} (hq : ∀ (fr to₉ sort : Int32) (worth : Int64), to.toInt ≤ fr.toInt → Tk taped fr to₉ sort → Q (fr, to₉, sort, worth)) : wp_X12_nextToken taped to tape Q := by
  unfold wp_X12_nextToken
  refine sl_nt8 h2 h0 (fun x x0 x1 => ?_) _ to (by omega) h1 (by omega)
  refine jn1_i (fun y : Int32 => (y = 0 ∧ x.toInt = taped.toInt) ∨ (y = 1 ∧ x.toInt < taped.toInt ∧ 97 ≤ (tape x.toNatClampNeg).toInt ∧ (tape x.toNatClampNeg).toInt ≤ 122) ∨ (y = 2 ∧ x.toInt < taped.toInt ∧ 48 ≤ (tape x.toNatClampNeg).toInt ∧ (tape x.toNatClampNeg).toInt ≤ 57) ∨ (y = 3 ∧ x.toInt < taped.toInt)) (fun y hy => ?_) (fun z hz => ?_)
  · by_cases c : y = 3
    · refine br1 c ?_
      have hx : x.toInt < taped.toInt := by
        rcases hy with h | h | h | h
        · rw [h.1] at c; exact absurd c (by decide)
        · exact h.2.1
        · exact h.2.1
        · exact h.2
      have e1 := li_1 (x := x) (hi := 400) (by omega) (by omega)
      refine ⟨vpi rfl (by omega) (by omega), sl_nt149a h2 _ _ _ (by omega) (by omega) (by omega) (fun a w a1 a2 _ => ?_)⟩
      refine sl_nt243a h2 _ _ _ (by omega) (by omega) (by omega) (fun b v b1 b2 _ => ?_)
      refine hq _ _ _ _ (by omega) ⟨by omega, by omega, by omega, by omega, by rw [c]; decide, by rw [c]; decide, fun _ => by omega⟩
    · refine br0 c ?_
      refine sl_nt149 h2 _ _ _ (by omega) (by omega) (by omega) (fun a w a1 a2 a3 => ?_)
      refine sl_nt243 h2 _ _ _ (by omega) (by omega) (by omega) (fun b v b1 b2 b3 => ?_)
      rcases hy with h | h | h | h
      · refine hq _ _ _ _ (by omega) ⟨by omega, by omega, by omega, by omega, by rw [h.1]; decide, by rw [h.1]; decide, fun q => (q h.1).elim⟩
      · have := a3 h.1 h.2.1 h.2.2.1 h.2.2.2
        refine hq _ _ _ _ (by omega) ⟨by omega, by omega, by omega, by omega, by rw [h.1]; decide, by rw [h.1]; decide, fun q => by omega⟩
      · refine hq _ _ _ _ (by omega) ⟨by omega, by omega, by omega, by omega, by rw [h.1]; decide, by rw [h.1]; decide, fun q => ?_⟩
        by_cases e : x.toInt = a.toInt
        · have e₉ : a = x := Int32.toInt_inj.mp e.symm
          rw [e₉] at b3
          have := b3 h.1 h.2.1 h.2.2.1 h.2.2.2
          omega
        · omega
      · exact (c h.1).elim
  · by_cases c : x = taped
    · exact br1 c (hz _ (Or.inl ⟨rfl, by rw [c]⟩))
    · refine br0 c ?_
      have c₉ := ne_z rfl rfl c
      refine ⟨vpi rfl (by omega) (by omega), e_isSmall (fun s1 s2 => ?_) (fun s0 => ?_)⟩
      · exact br0 (by decide) (hz _ (Or.inr (Or.inl ⟨rfl, by omega, s1, s2⟩)))
      · refine br1 rfl ⟨vpi rfl (by omega) (by omega), e_isDigit (fun s1 s2 => ?_) (fun s0 => ?_)⟩
        · exact br0 (by decide) (hz _ (Or.inr (Or.inr (Or.inl ⟨rfl, by omega, s1, s2⟩))))
        · exact br1 rfl (hz _ (Or.inr (Or.inr (Or.inr ⟨rfl, by omega⟩))))
theorem Tk.next {taped fr to sort : Int32} (h : Tk taped fr to sort) (hs : ¬ sort = 0) {tape : Nat → Int32} {Q : (Int32 × Int32 × Int32 × Int64) → Prop} (hq : ∀ (fr₉ to₉ sort₉ : Int32) (worth : Int64), fr.toInt < fr₉.toInt → Tk taped fr₉ to₉ sort₉ → Q (fr₉, to₉, sort₉, worth)) : wp_X12_nextToken taped to tape Q := by
  obtain ⟨a1, a2, a3, a4, a5, a6, a7⟩ := h
  have := a7 hs
  exact s_nextToken (by omega) a3 a4 (fun fr₉ to₉ sort₉ w h1 h2 => hq fr₉ to₉ sort₉ w (by omega) h2)
theorem s_must {a taped fr to sort : Int32} {worth : Int64} {fault bad : Int32} {tape : Nat → Int32} (hT : Tk taped fr to sort) (ha : ¬ a = 0 → ¬ sort = 0) (hb : bad = 0 ∨ bad = 1) {Q : (Int32 × Int32 × Int32 × Int64 × Int32 × Int32) → Prop} (hq : ∀ (fr₉ to₉ sort₉ : Int32) (worth₉ : Int64) (fault₉ bad₉ : Int32), Tk taped fr₉ to₉ sort₉ → fr.toInt ≤ fr₉.toInt → (bad₉ = 0 ∨ bad₉ = 1) → (bad₉ = 0 → bad = 0 ∧ ¬ a = 0 ∧ fr.toInt < fr₉.toInt) → Q (fr₉, to₉, sort₉, worth₉, fault₉, bad₉)) : wp_X12_must a taped fr to sort worth fault bad tape Q := by
  unfold wp_X12_must
  by_cases c : bad = 0
  · refine br1 c ?_
    by_cases d : a = 0
    · exact br1 d (hq _ _ _ _ _ _ hT (Int.le_refl _) (Or.inr rfl) (fun q => absurd q (by decide)))
    · refine br0 d (hT.next (ha d) (fun fr₉ to₉ sort₉ w h1 h2 => ?_))
      exact un4_i (hq _ _ _ _ _ _ h2 (by omega) hb (fun _ => ⟨c, d, h1⟩))
  · exact br0 c (hq _ _ _ _ _ _ hT (Int.le_refl _) hb (fun q => (c q).elim))
theorem s_number {a b : Int64} {taped fr to sort : Int32} {worth : Int64} {fault bad : Int32} {tape : Nat → Int32} (hT : Tk taped fr to sort) (hb : bad = 0 ∨ bad = 1) {Q : Int32 → (Int32 × Int32 × Int32 × Int64 × Int32 × Int32) → Prop} (hq : ∀ (r fr₉ to₉ sort₉ : Int32) (worth₉ : Int64) (fault₉ bad₉ : Int32), Tk taped fr₉ to₉ sort₉ → fr.toInt ≤ fr₉.toInt → (bad₉ = 0 ∨ bad₉ = 1) → (bad₉ = 0 → bad = 0 ∧ fr.toInt < fr₉.toInt ∧ a.toInt ≤ worth.toInt ∧ worth.toInt ≤ b.toInt ∧ r = worth.toInt32) → Q r (fr₉, to₉, sort₉, worth₉, fault₉, bad₉)) : wp_X12_number a b taped fr to sort worth fault bad tape Q := by
  unfold wp_X12_number
  have k0 : ∀ (y : Int32), y = 0 → wp_X12_must y taped fr to sort worth fault bad tape (un6 fun u0 u1 u2 u3 u4 u5 => Q worth.toInt32 (u0, u1, u2, u3, u4, u5)) := fun y hy =>
    s_must hT (fun q => (q hy).elim) hb (fun f1 f2 f3 f4 f5 f6 h1 h2 h3 h4 => un6_i (hq _ _ _ _ _ _ _ h1 h2 h3 (fun q => ((h4 q).2.1 hy).elim)))
  by_cases c : sort = 2
  · refine br1 c ?_
    unfold wp_X12_in
    by_cases d : lg_cmp worth a < 0
    · exact br1 d (br1 rfl (k0 0 rfl))
    · refine br0 d ?_
      by_cases e : 0 < lg_cmp worth b
      · exact br1 e (br1 rfl (k0 0 rfl))
      · refine br0 e (br0 (by decide) ?_)
        have d₉ := c_nlt rfl rfl d
        have e₉ := c_ngt rfl rfl e
        exact s_must hT (fun _ => nz_of c (by decide)) hb (fun f1 f2 f3 f4 f5 f6 h1 h2 h3 h4 => un6_i (hq _ _ _ _ _ _ _ h1 h2 h3 (fun q => ⟨(h4 q).1, (h4 q).2.2, d₉, e₉, rfl⟩)))
  · exact br0 c (k0 0 rfl)
theorem sl_partAt {sort : Int32} {worth : Int64} {ws : Nat → Int64} {Qb : Int32 → Int32 → Prop} (K : ∀ (x v : Int32), (v = -1 ∨ (sort = 1 ∧ 1 ≤ v.toInt ∧ v.toInt ≤ 9)) → Qb x v) : ∀ (n : Nat) (x v : Int32), 0 ≤ x.toInt → x.toInt ≤ 9 → (v = -1 ∨ (sort = 1 ∧ 1 ≤ v.toInt ∧ v.toInt ≤ 9)) → 9 - x.toInt < n → wl_X12_partAt_4 sort worth ws Qb n x v := by
  intro n
  induction n with
  | zero => intro x v a b c d; exfalso; have d : 9 - x.toInt < 0 := d; omega
  | succ n ih =>
    intro x v a b c d
    unfold wl_X12_partAt_4
    by_cases e : 9 ≤ x
    · exact br1 e (K x v c)
    · refine br0 e ?_
      have e₉ := nle_z (x := 9) rfl rfl e
      have e1 := li_1 (x := x) (hi := 9) (by omega) (by omega)
      refine ⟨vpi rfl (by omega) (by omega), e_isWord (fun s1 _ => ?_) ?_⟩
      · refine br0 (by decide) (ih _ _ (by omega) (by omega) (Or.inr ⟨s1, ?_⟩) (by omega))
        omega
      · exact br1 rfl (ih _ _ (by omega) (by omega) c (by omega))
theorem sl_orderPartAt {sort : Int32} {worth : Int64} {ws : Nat → Int64} {Qb : Int32 → Int32 → Prop} (K : ∀ (x v : Int32), (v = -1 ∨ (sort = 1 ∧ 1 ≤ v.toInt ∧ v.toInt ≤ 6)) → Qb x v) : ∀ (n : Nat) (x v : Int32), 0 ≤ x.toInt → x.toInt ≤ 6 → (v = -1 ∨ (sort = 1 ∧ 1 ≤ v.toInt ∧ v.toInt ≤ 6)) → 6 - x.toInt < n → wl_X12_orderPartAt_4 sort worth ws Qb n x v := by
  intro n
  induction n with
  | zero => intro x v a b c d; exfalso; have d : 6 - x.toInt < 0 := d; omega
  | succ n ih =>
    intro x v a b c d
    unfold wl_X12_orderPartAt_4
    by_cases e : 6 ≤ x
    · exact br1 e (K x v c)
    · refine br0 e ?_
      have e₉ := nle_z (x := 6) rfl rfl e
      have e1 := li_1 (x := x) (hi := 6) (by omega) (by omega)
      refine ⟨vpi rfl (by omega) (by omega), e_isWord (fun s1 _ => ?_) ?_⟩
      · refine br0 (by decide) (ih _ _ (by omega) (by omega) (Or.inr ⟨s1, ?_⟩) (by omega))
        omega
      · exact br1 rfl (ih _ _ (by omega) (by omega) c (by omega))
theorem sl_readLaw4 {sort : Int32} {worth : Int64} {ws : Nat → Int64} {Qb : Int32 → Int32 → Prop} (K : ∀ (x v : Int32), (v = -1 ∨ (sort = 1 ∧ 0 ≤ v.toInt ∧ v.toInt ≤ 4)) → Qb x v) : ∀ (n : Nat) (x v : Int32), 0 ≤ x.toInt → x.toInt ≤ 5 → (v = -1 ∨ (sort = 1 ∧ 0 ≤ v.toInt ∧ v.toInt ≤ 4)) → 5 - x.toInt < n → wl_X12_readLaw_4 sort worth ws Qb n x v := by
  intro n
  induction n with
  | zero => intro x v a b c d; exfalso; have d : 5 - x.toInt < 0 := d; omega
  | succ n ih =>
    intro x v a b c d
    unfold wl_X12_readLaw_4
    by_cases e : 5 ≤ x
    · exact br1 e (K x v c)
    · refine br0 e ?_
      have e₉ := nle_z (x := 5) rfl rfl e
      have e1 := li_1 (x := x) (hi := 5) (by omega) (by omega)
      refine ⟨vpi rfl (by omega) (by omega), e_isWord (fun s1 _ => ?_) ?_⟩
      · refine br0 (by decide) (ih _ _ (by omega) (by omega) (Or.inr ⟨s1, ?_⟩) (by omega))
        omega
      · exact br1 rfl (ih _ _ (by omega) (by omega) c (by omega))
theorem s_partAt {sort : Int32} {worth : Int64} {ws : Nat → Int64} {Q : Int32 → Prop} (hq : ∀ r : Int32, (r = -1 ∨ (sort = 1 ∧ 1 ≤ r.toInt ∧ r.toInt ≤ 9)) → Q r) : wp_X12_partAt sort worth ws Q := by
  unfold wp_X12_partAt
  exact sl_partAt (fun x v h => hq v h) _ 0 (-1) (by decide) (by decide) (Or.inl rfl) (by decide)
theorem s_orderPartAt {sort : Int32} {worth : Int64} {ws : Nat → Int64} {Q : Int32 → Prop} (hq : ∀ r : Int32, (r = -1 ∨ (sort = 1 ∧ 1 ≤ r.toInt ∧ r.toInt ≤ 6)) → Q r) : wp_X12_orderPartAt sort worth ws Q := by
  unfold wp_X12_orderPartAt
  exact sl_orderPartAt (fun x v h => hq v h) _ 0 (-1) (by decide) (by decide) (Or.inl rfl) (by decide)
/-- how strongly one binds -/
def bnd (a : Int32) : Int32 := if a < 31 then (if a = 30 then 1 else (if a = 29 then 2 else (if a = 28 then 3 else (if a < 25 then (if a < 22 then 5 else 6) else 4)))) else 0
theorem e_binds {a : Int32} {Q : Int32 → Prop} (h : Q (bnd a)) : wp_X12_binds a Q := by
  unfold wp_X12_binds
  unfold bnd at h
  by_cases c1 : a < 31
  · rw [if_pos c1] at h ⊢
    by_cases c2 : a = 30
    · rw [if_pos c2] at h ⊢; exact h
    · rw [if_neg c2] at h ⊢
      by_cases c3 : a = 29
      · rw [if_pos c3] at h ⊢; exact h
      · rw [if_neg c3] at h ⊢
        by_cases c4 : a = 28
        · rw [if_pos c4] at h ⊢; exact h
        · rw [if_neg c4] at h ⊢
          by_cases c5 : a < 25
          · rw [if_pos c5] at h ⊢
            by_cases c6 : a < 22
            · rw [if_pos c6] at h ⊢; exact h
            · rw [if_neg c6] at h ⊢; exact h
          · rw [if_neg c5] at h ⊢; exact h
  · rw [if_neg c1] at h ⊢; exact h
theorem bnd_v (a : Int32) : (a.toInt < 25 ∧ 5 ≤ (bnd a).toInt ∧ (bnd a).toInt ≤ 6) ∨ (25 ≤ a.toInt ∧ a.toInt ≤ 30 ∧ 1 ≤ (bnd a).toInt ∧ (bnd a).toInt ≤ 4) ∨ (31 ≤ a.toInt ∧ (bnd a).toInt = 0) := by
  unfold bnd
  by_cases c1 : a < 31
  · rw [if_pos c1]
    have d1 := lt_z (y := 31) rfl rfl c1
    by_cases c2 : a = 30
    · rw [if_pos c2, c2]; decide
    · rw [if_neg c2]
      by_cases c3 : a = 29
      · rw [if_pos c3, c3]; decide
      · rw [if_neg c3]
        by_cases c4 : a = 28
        · rw [if_pos c4, c4]; decide
        · rw [if_neg c4]
          by_cases c5 : a < 25
          · rw [if_pos c5]
            have d5 := lt_z (y := 25) rfl rfl c5
            left
            refine ⟨d5, ?_⟩
            by_cases c6 : a < 22
            · rw [if_pos c6]; decide
            · rw [if_neg c6]; decide
          · rw [if_neg c5]
            have d5 := nlt_z (y := 25) rfl rfl c5
            right; left
            exact ⟨d5, by omega, by decide, by decide⟩
  · rw [if_neg c1]
    have d1 := nlt_z (y := 31) rfl rfl c1
    right; right
    exact ⟨d1, rfl⟩
theorem sub1 {q : Int32} {k : Nat} (h : q.toInt = ((k + 1 : Nat) : Int)) : (q - 1).toInt = (k : Int) := by
  have e : (q - 1).toInt = q.toInt - 1 := sub_z rfl rfl (by omega) (by have := i32_hi q; omega)
  omega
theorem add1 {q : Int32} {k : Nat} (h : q.toInt = (k : Int)) (hk : k ≤ 100000) : (q + 1).toInt = ((k + 1 : Nat) : Int) := by
  have e : (q + 1).toInt = q.toInt + 1 := add_z rfl rfl (by omega) (by omega)
  omega
theorem sl_settle {g : Prop} {s fr : Nat} {a : Int32} {o0 a0 pile pat : Nat → Int32} (hf : fr ≤ 400) (ha : 1 ≤ a.toInt) {Qb : Int32 → Int32 → (Nat → Int32) → (Nat → Int32) → Prop} : ∀ (m n p : Nat) (c q : Int32) (op ar : Nat → Int32), c.toInt = (n : Int) → q.toInt = (p : Int) → PI g 1 s n p fr o0 a0 pile pat op ar → p < m → (∀ (n₉ p₉ : Nat) (c₉ q₉ : Int32) (op₉ ar₉ : Nat → Int32), c₉.toInt = (n₉ : Int) → q₉.toInt = (p₉ : Int) → PI g 1 s n₉ p₉ fr o0 a0 pile pat op₉ ar₉ → p₉ ≤ p → (∀ k, p₉ ≤ k → k < p → a.toInt ≤ (bnd (pile k)).toInt) → (p₉ = 0 ∨ ∃ k, p₉ = k + 1 ∧ (bnd (pile k)).toInt < a.toInt) → Qb c₉ q₉ op₉ ar₉) → wl_X12_settle_0 a pile pat Qb m c q op ar := by
  intro m
  induction m with
  | zero => intro n p c q op ar _ _ _ h; omega
  | succ m ih =>
    intro n p c q op ar hc hq hI hm K
    unfold wl_X12_settle_0
    cases p with
    | zero =>
      refine br1 ?_ (K n 0 c q op ar hc hq hI (Nat.le_refl 0) (fun k k1 k2 => by omega) (Or.inl rfl))
      exact z_le rfl rfl (by rw [hq]; decide)
    | succ p =>
      have e1 := sub1 hq
      have en := tnN e1
      obtain ⟨⟨a1, a2, a3, a4, a5⟩, -, -⟩ := id hI
      refine br0 ?_ ?_
      · exact z_nle rfl rfl (by rw [hq]; show (0 : Int) < _; omega)
      rw [en]
      refine ⟨vpi e1 (by omega) (by omega), e_binds ?_⟩
      by_cases d : bnd (pile p) < a
      · exact br1 d (K n (p + 1) c q op ar hc hq hI (Nat.le_refl _) (fun k k1 k2 => by omega) (Or.inr ⟨p, rfl, lt_z rfl rfl d⟩))
      · refine br0 d ⟨vpi e1 (by omega) (by omega), jn_s ?_⟩
        have d₉ := nlt_z rfl rfl d
        obtain ⟨r1, r2⟩ := a4 p (by omega)
        have KK : ∀ (n₉ p₉ : Nat) (c₉ q₉ : Int32) (op₉ ar₉ : Nat → Int32), c₉.toInt = (n₉ : Int) → q₉.toInt = (p₉ : Int) → PI g 1 s n₉ p₉ fr o0 a0 pile pat op₉ ar₉ → p₉ ≤ p → (∀ k, p₉ ≤ k → k < p → a.toInt ≤ (bnd (pile k)).toInt) → (p₉ = 0 ∨ ∃ k, p₉ = k + 1 ∧ (bnd (pile k)).toInt < a.toInt) → Qb c₉ q₉ op₉ ar₉ := fun n₉ p₉ c₉ q₉ op₉ ar₉ h1 h2 h3 h4 h5 h6 => K n₉ p₉ c₉ q₉ op₉ ar₉ h1 h2 h3 (by omega) (fun k k1 k2 => by
          by_cases e : k = p
          · rw [e]; exact d₉
          · exact h5 k k1 (by omega)) h6
        have J : isJ (pile p) → vp_in (q - 1) 400 ∧ vp_in (pat p) 400 ∧ wl_X12_settle_0 a pile pat Qb m c (q - 1) op (upd ar (pat p).toNatClampNeg c) := fun hj => by
          obtain ⟨i, i1, i2, i3⟩ := a5 p (by omega) hj
          refine ⟨vpi e1 (by omega) (by omega), vpi i1 (by omega) (by omega), ?_⟩
          rw [tnN i1]
          exact ih n p c (q - 1) op _ hc e1 (hI.popj hj i1 hc) (by omega) KK
        by_cases x1 : pile p = 29
        · refine br1 x1 (J ?_)
          rw [x1]; exact ⟨by decide, by decide⟩
        · refine br0 x1 ⟨vpi e1 (by omega) (by omega), ?_⟩
          by_cases x2 : pile p = 30
          · refine br1 x2 (J ?_)
            rw [x2]; exact ⟨by decide, by decide⟩
          · refine br0 x2 ⟨vpi e1 (by omega) (by omega), ?_⟩
            have y1 := ne_z (y := 29) rfl rfl x1
            have y2 := ne_z (y := 30) rfl rfl x2
            by_cases y3 : (pile p).toInt ≤ 28
            · rw [npd1 ⟨r1, y3⟩] at a2
              unfold wp_X12_emit
              refine ⟨vpi hc (by omega) (by omega), vpi hc (by omega) (by omega), un3_i ?_⟩
              rw [tnN hc]
              exact ih (n + 1) p (c + 1) (q - 1) _ _ (add1 hc (by omega)) e1 (hI.popc r1 y3) (by omega) KK
            · exfalso
              have := bnd_v (pile p)
              omega
theorem s_settle {g : Prop} {s fr n p : Nat} {a c q : Int32} {o0 a0 pile pat op ar : Nat → Int32} (hf : fr ≤ 400) (ha : 1 ≤ a.toInt) (hc : c.toInt = (n : Int)) (hq : q.toInt = (p : Int)) (hI : PI g 1 s n p fr o0 a0 pile pat op ar) {Q : (Int32 × Int32 × (Nat → Int32) × (Nat → Int32)) → Prop} (K : ∀ (n₉ p₉ : Nat) (c₉ q₉ : Int32) (op₉ ar₉ : Nat → Int32), c₉.toInt = (n₉ : Int) → q₉.toInt = (p₉ : Int) → PI g 1 s n₉ p₉ fr o0 a0 pile pat op₉ ar₉ → p₉ ≤ p → (∀ k, p₉ ≤ k → k < p → a.toInt ≤ (bnd (pile k)).toInt) → (p₉ = 0 ∨ ∃ k, p₉ = k + 1 ∧ (bnd (pile k)).toInt < a.toInt) → Q (c₉, q₉, op₉, ar₉)) : wp_X12_settle a c q pile op ar pat Q := by
  unfold wp_X12_settle
  refine sl_settle hf ha _ n p c q op ar hc hq hI ?_ (fun n₉ p₉ c₉ q₉ op₉ ar₉ h1 h2 h3 h4 h5 h6 => K n₉ p₉ c₉ q₉ op₉ ar₉ h1 h2 h3 h4 h5 h6)
  have := hI.1.2.2.1
  omega
end
section
/-! the reference₉s reader: sums and tests -/
theorem PI.imp {g g₉ : Prop} {t s n p fr : Nat} {o0 a0 pile pat op ar : Nat → Int32} (h : PI g t s n p fr o0 a0 pile pat op ar) (hg : g₉ → g) : PI g₉ t s n p fr o0 a0 pile pat op ar := ⟨h.1, h.2.1, fun q => h.2.2 (hg q)⟩
/-- the reader₉s state between two tokens -/
def RS (t s : Nat) (o0 a0 : Nat → Int32) (taped fr to sort bad nCode piled : Int32) (pile pat op ar : Nat → Int32) : Prop := ∃ n p f : Nat, nCode.toInt = (n : Int) ∧ piled.toInt = (p : Int) ∧ fr.toInt = (f : Int) ∧ PI (bad = 0) t s n p f o0 a0 pile pat op ar ∧ Tk taped fr to sort ∧ (bad = 0 ∨ bad = 1)
def NS (piled : Int32) (pile : Nat → Int32) : Prop := ∀ k : Nat, (k : Int) < piled.toInt → (pile k).toInt ≠ 32
def NB (piled : Int32) (pile : Nat → Int32) : Prop := ∀ k : Nat, (k : Int) < piled.toInt → (pile k).toInt ≤ 30
theorem RS.bad {t t₉ s : Nat} {taped fr to sort bad nCode piled : Int32} {o0 a0 pile pat op ar : Nat → Int32} (h : RS t s o0 a0 taped fr to sort bad nCode piled pile pat op ar) (hb : ¬ bad = 0) : RS t₉ s o0 a0 taped fr to sort bad nCode piled pile pat op ar := by
  obtain ⟨n, p, f, h1, h2, h3, h4, h5⟩ := h
  exact ⟨n, p, f, h1, h2, h3, h4.weak hb t₉, h5⟩
/-- further on on the tape -/
theorem RS.must {t s : Nat} {taped fr to sort bad nCode piled : Int32} {o0 a0 pile pat op ar : Nat → Int32} (h : RS t s o0 a0 taped fr to sort bad nCode piled pile pat op ar) {fr₉ to₉ sort₉ bad₉ : Int32} (hT : Tk taped fr₉ to₉ sort₉) (hf : fr.toInt ≤ fr₉.toInt) (hb : bad₉ = 0 ∨ bad₉ = 1) (hi : bad₉ = 0 → bad = 0) : RS t s o0 a0 taped fr₉ to₉ sort₉ bad₉ nCode piled pile pat op ar := by
  obtain ⟨n, p, f, h1, h2, h3, h4, h5, h6⟩ := h
  refine ⟨n, p, fr₉.toInt.toNat, h1, h2, ?_, (h4.imp hi).more ?_, hT, hb⟩
  · omega
  · omega
theorem sl_inner {piled : Int32} {pile : Nat → Int32} {p : Nat} (hp : piled.toInt = (p : Int)) (h4 : p ≤ 400) {Qb : Int32 → Int32 → Prop} (K : ∀ x v : Int32, ((v = -1 ∧ ∀ k, k < p → (pile k).toInt ≤ 30) ∨ ∃ k, k < p ∧ v = pile k ∧ 31 ≤ (pile k).toInt ∧ ∀ j, k < j → j < p → (pile j).toInt ≤ 30) → Qb x v) : ∀ (m i : Nat) (x v : Int32), x.toInt = (i : Int) → i ≤ p → p - i < m → ((v = -1 ∧ ∀ k, k < i → (pile k).toInt ≤ 30) ∨ ∃ k, k < i ∧ v = pile k ∧ 31 ≤ (pile k).toInt ∧ ∀ j, k < j → j < i → (pile j).toInt ≤ 30) → wl_X12_inner_4 piled pile Qb m x v := by
  intro m
  induction m with
  | zero => intro i x v _ _ h; omega
  | succ m ih =>
    intro i x v hx hi hm hI
    unfold wl_X12_inner_4
    by_cases c : piled ≤ x
    · have c₉ := le_z rfl rfl c
      obtain rfl : i = p := by omega
      exact br1 c (K x v hI)
    · have c₉ := nle_z rfl rfl c
      refine br0 c ⟨vpi hx (by omega) (by omega), ?_⟩
      rw [tnN hx]
      by_cases d : pile i < 31
      · have d₉ := lt_z (y := 31) rfl rfl d
        refine br1 d (ih (i + 1) _ _ (add1 hx (by omega)) (by omega) (by omega) ?_)
        rcases hI with ⟨q1, q2⟩ | ⟨k, q1, q2, q3, q4⟩
        · refine Or.inl ⟨q1, fun k hk => ?_⟩
          by_cases e : k = i
          · rw [e]; omega
          · exact q2 k (by omega)
        · refine Or.inr ⟨k, by omega, q2, q3, fun j j1 j2 => ?_⟩
          by_cases e : j = i
          · rw [e]; omega
          · exact q4 j j1 (by omega)
      · have d₉ := nlt_z (y := 31) rfl rfl d
        refine br0 d ⟨vpi hx (by omega) (by omega), ih (i + 1) _ _ (add1 hx (by omega)) (by omega) (by omega) (Or.inr ⟨i, by omega, rfl, d₉, fun j j1 j2 => by omega⟩)⟩
theorem s_inner {piled : Int32} {pile : Nat → Int32} {p : Nat} (hp : piled.toInt = (p : Int)) (h4 : p ≤ 400) {Q : Int32 → Prop} (hq : ∀ v : Int32, ((v = -1 ∧ ∀ k, k < p → (pile k).toInt ≤ 30) ∨ ∃ k, k < p ∧ v = pile k ∧ 31 ≤ (pile k).toInt ∧ ∀ j, k < j → j < p → (pile j).toInt ≤ 30) → Q v) : wp_X12_inner piled pile Q := by
  unfold wp_X12_inner
  exact sl_inner hp h4 (fun x v h => hq v h) _ 0 0 (-1) rfl (by omega) (by omega) (Or.inl ⟨rfl, fun k hk => by omega⟩)
theorem e_in {a b d : Int64} {Q : Int32 → Prop} (h1 : b.toInt ≤ a.toInt → a.toInt ≤ d.toInt → Q 1) (h0 : ¬ (b.toInt ≤ a.toInt ∧ a.toInt ≤ d.toInt) → Q 0) : wp_X12_in a b d Q := by
  unfold wp_X12_in
  by_cases c : lg_cmp a b < 0
  · refine br1 c (h0 ?_)
    have := c_lt rfl rfl c; omega
  · have c₉ := c_nlt rfl rfl c
    refine br0 c ?_
    by_cases e : 0 < lg_cmp a d
    · refine br1 e (h0 ?_)
      have := c_gt rfl rfl e; omega
    · exact br0 e (h1 c₉ (c_ngt rfl rfl e))
theorem sl_isCompared {pile : Nat → Int32} {Qb : Int32 → Prop} (K : ∀ x : Int32, -1 ≤ x.toInt → x.toInt < 400 → Qb x) : ∀ (m : Nat) (x : Int32), -1 ≤ x.toInt → x.toInt < 400 → x.toInt + 1 < m → wl_X12_isCompared_7 pile Qb m x := by
  intro m
  induction m with
  | zero => intro x a b c; exfalso; have c : x.toInt + 1 < 0 := c; omega
  | succ m ih =>
    intro x a b c
    unfold wl_X12_isCompared_7
    by_cases d : x < 0
    · exact br1 d (K x a b)
    · have d₉ := nlt_z (y := 0) rfl rfl d
      have e1 : (x + (-1)).toInt = x.toInt + (-1) := add_z rfl (by decide) (by omega) (by omega)
      refine br0 d ⟨vpi rfl (by omega) (by omega), e_in (fun _ _ => ?_) (fun _ => br1 rfl (K x a b))⟩
      exact br0 (by decide) (ih _ (by omega) (by omega) (by omega))
theorem s_isCompared {piled : Int32} {pile : Nat → Int32} (h0 : 0 ≤ piled.toInt) (h4 : piled.toInt ≤ 400) {Q : Int32 → Prop} (hq : ∀ r : Int32, Q r) : wp_X12_isCompared piled pile Q := by
  unfold wp_X12_isCompared
  have e1 : (piled - 1).toInt = piled.toInt - 1 := sub_z rfl rfl (by omega) (by omega)
  refine sl_isCompared (fun x a b => ?_) _ _ (by omega) (by omega) (by omega)
  by_cases d : x < 0
  · exact br1 d (hq _)
  · have d₉ := nlt_z (y := 0) rfl rfl d
    exact br0 d ⟨vpi rfl (by omega) (by omega), e_in (fun _ _ => br0 (by decide) (hq _)) (fun _ => br1 rfl (hq _))⟩
theorem s_openBracket {s : Nat} {a taped fr to sort : Int32} {worth : Int64} {fault bad nCode piled opened : Int32} {o0 a0 tape pile pat op ar : Nat → Int32} (h : RS 0 s o0 a0 taped fr to sort bad nCode piled pile pat op ar) (hs : ¬ sort = 0) (ha : a.toInt = 32 ∨ (a.toInt = 31 ∧ (bad = 0 → NS piled pile))) {Q : (Int32 × Int32 × Int32 × Int64 × Int32 × Int32 × Int32 × Int32 × (Nat → Int32) × (Nat → Int32)) → Prop} (hq : ∀ (fr₉ to₉ sort₉ : Int32) (worth₉ : Int64) (fault₉ bad₉ piled₉ opened₉ : Int32) (pile₉ pat₉ : Nat → Int32), RS 0 s o0 a0 taped fr₉ to₉ sort₉ bad₉ nCode piled₉ pile₉ pat₉ op ar → (bad₉ = 0 → fr.toInt < fr₉.toInt ∧ (a.toInt = 31 → NS piled₉ pile₉)) → Q (fr₉, to₉, sort₉, worth₉, fault₉, bad₉, piled₉, opened₉, pile₉, pat₉)) : wp_X12_openBracket a taped fr to sort worth fault bad piled opened tape pile pat Q := by
  unfold wp_X12_openBracket
  obtain ⟨n, p, f, h1, h2, h3, h4, h5, h6⟩ := id h
  have a3 := h4.1.2.2.1
  have T := h5
  obtain ⟨t1, t2, t3, t4, t5, t6, t7⟩ := T
  have t8 := t7 hs
  refine jn1_i (fun _ => True) (fun y _ => ?_) (fun z hz => ?_)
  · refine s_must h5 (fun _ => hs) h6 (fun fr₉ to₉ sort₉ w₉ fault₉ bad₉ g1 g2 g3 g4 => un6_i ?_)
    by_cases c : bad₉ = 0
    · refine br1 c ?_
      obtain ⟨g5, -, g6⟩ := g4 c
      unfold wp_X12_push
      refine ⟨vpi h2 (by omega) (by omega), vpi h2 (by omega) (by omega), un3_i (hq _ _ _ _ _ _ _ _ _ _ ⟨n, p + 1, fr₉.toInt.toNat, h1, add1 h2 (by omega), by have := g1.1; omega, ?_, g1, g3⟩ (fun _ => ⟨g6, fun e => ?_⟩))⟩
      · rw [tnN h2]
        refine (h4.imp (fun _ => g5)).push (t₉ := 0) 0 (by omega) (by omega) (by unfold isJ; omega) (by rw [if_neg (by omega)]) ?_ (by omega)
        rcases ha with ha | ⟨ha, hn⟩
        · exact Or.inr (Or.inl ha)
        · exact Or.inr (Or.inr (fun k hk => hn g5 k (by omega)))
      · rw [tnN h2]
        intro k hk
        rw [add1 h2 (by omega)] at hk
        by_cases e2 : k = p
        · rw [e2, pk_us]; omega
        · rw [pk_un e2]
          rcases ha with ha | ⟨ha, hn⟩
          · omega
          · exact hn g5 k (by omega)
    · exact br0 c (hq _ _ _ _ _ _ _ _ _ _ (h.must g1 g2 g3 (fun q => (c q).elim)) (fun q => (c q).elim))
  · by_cases c : 8 ≤ opened
    · exact br1 c (hz _ trivial)
    · exact br0 c (hz _ trivial)
theorem s_leaf {s : Nat} {a b d taped fr to sort : Int32} {worth : Int64} {fault bad nCode nLeaves piled : Int32} {o0 a0 tape pile pat op ar : Nat → Int32} (h : RS 0 s o0 a0 taped fr to sort bad nCode piled pile pat op ar) (hs : ¬ a = 0 → ¬ sort = 0) (h0 : 0 ≤ b.toInt) (h12 : b.toInt ≤ 9) {Q : (Int32 × Int32 × Int32 × Int64 × Int32 × Int32 × Int32 × Int32 × (Nat → Int32) × (Nat → Int32)) → Prop} (hq : ∀ (fr₉ to₉ sort₉ : Int32) (worth₉ : Int64) (fault₉ bad₉ nCode₉ nLeaves₉ : Int32) (op₉ ar₉ : Nat → Int32), RS 1 s o0 a0 taped fr₉ to₉ sort₉ bad₉ nCode₉ piled pile pat op₉ ar₉ → (bad₉ = 0 → fr.toInt < fr₉.toInt ∧ ∃ m : Nat, nCode₉.toInt = ((m + 1 : Nat) : Int) ∧ s ≤ m ∧ (op₉ m).toInt ≤ 9) → Q (fr₉, to₉, sort₉, worth₉, fault₉, bad₉, nCode₉, nLeaves₉, op₉, ar₉)) : wp_X12_leaf a b d taped fr to sort worth fault bad nCode nLeaves tape op ar Q := by
  unfold wp_X12_leaf
  obtain ⟨n, p, f, h1, h2, h3, h4, h5, h6⟩ := id h
  obtain ⟨a1, a2, a3, a4, a5⟩ := h4.1
  obtain ⟨t1, t2, t3, t4, t5, t6, t7⟩ := id h5
  refine jn1_i (fun y : Int32 => ¬ y = 0 → ¬ a = 0) (fun y hy => ?_) (fun z hz => ?_)
  · refine s_must h5 (fun e => hs (hy e)) h6 (fun fr₉ to₉ sort₉ w₉ fault₉ bad₉ g1 g2 g3 g4 => un6_i ?_)
    by_cases c : bad₉ = 0
    · refine br1 c ?_
      obtain ⟨g5, g7, g6⟩ := g4 c
      have t8 := t7 (hs (hy g7))
      unfold wp_X12_emit
      refine ⟨vpi h1 (by omega) (by omega), vpi h1 (by omega) (by omega), un3_i (hq _ _ _ _ _ _ _ _ _ _ ⟨n + 1, p, fr₉.toInt.toNat, add1 h1 (by omega), h2, by have := g1.1; omega, ?_, g1, g3⟩ (fun _ => ⟨g6, n, add1 h1 (by omega), a1, ?_⟩))⟩
      · rw [tnN h1]
        exact (h4.imp (fun _ => g5)).leaf d h0 h12 (by omega)
      · rw [tnN h1, pk_us]; exact h12
    · exact br0 c (hq _ _ _ _ _ _ _ _ _ _ ((h.must g1 g2 g3 (fun q => (c q).elim)).bad c) (fun q => (c q).elim))
  · by_cases c : a = 0
    · exact br1 c (hz 0 (fun q => absurd rfl q))
    · refine br0 c ?_
      by_cases e : 50 ≤ nLeaves
      · exact br1 e (hz 0 (fun q => absurd rfl q))
      · exact br0 e (hz 1 (fun _ => c))
def RP (s : Nat) (o0 a0 : Nat → Int32) (taped fr : Int32) (r fr₉ to₉ sort₉ bad₉ nCode₉ piled₉ : Int32) (pile₉ pat₉ op₉ ar₉ : Nat → Int32) : Prop := ((r = 1 ∧ RS 0 s o0 a0 taped fr₉ to₉ sort₉ bad₉ nCode₉ piled₉ pile₉ pat₉ op₉ ar₉) ∨ (r = 3 ∧ RS 1 s o0 a0 taped fr₉ to₉ sort₉ bad₉ nCode₉ piled₉ pile₉ pat₉ op₉ ar₉)) ∧ (bad₉ = 0 → fr.toInt < fr₉.toInt)
theorem s_readPart {s : Nat} {taped fr to sort : Int32} {worth : Int64} {fault bad ordered nCode nLeaves piled opened : Int32} {words oWords : Nat → Int64} {o0 a0 tape pile pat op ar : Nat → Int32} (h : RS 0 s o0 a0 taped fr to sort bad nCode piled pile pat op ar) {Q : Int32 → (Int32 × Int32 × Int32 × Int64 × Int32 × Int32 × Int32 × Int32 × Int32 × Int32 × (Nat → Int32) × (Nat → Int32) × (Nat → Int32) × (Nat → Int32)) → Prop} (hq : ∀ (r fr₉ to₉ sort₉ : Int32) (worth₉ : Int64) (fault₉ bad₉ nCode₉ nLeaves₉ piled₉ opened₉ : Int32) (op₉ ar₉ pile₉ pat₉ : Nat → Int32), RP s o0 a0 taped fr r fr₉ to₉ sort₉ bad₉ nCode₉ piled₉ pile₉ pat₉ op₉ ar₉ → Q r (fr₉, to₉, sort₉, worth₉, fault₉, bad₉, nCode₉, nLeaves₉, piled₉, opened₉, op₉, ar₉, pile₉, pat₉)) : wp_X12_readPart taped fr to sort worth fault bad ordered nCode nLeaves piled opened words oWords tape op ar pile pat Q := by
  unfold wp_X12_readPart
  refine e_isSign (fun s1 _ => ?_) ?_
  · refine br0 (by decide) (s_openBracket h (nz_of s1 (by decide)) (Or.inl (by decide)) (fun fr₉ to₉ sort₉ w₉ fault₉ bad₉ piled₉ opened₉ pile₉ pat₉ g1 g2 => un10_i (hq _ _ _ _ _ _ _ _ _ _ _ _ _ _ _ ⟨Or.inl ⟨rfl, g1⟩, fun q => (g2 q).1⟩)))
  · refine br1 rfl ?_
    refine jn1_i (fun y : Int32 => y = -1 ∨ (sort = 1 ∧ 1 ≤ y.toInt ∧ y.toInt ≤ 9)) (fun y hy => ?_) (fun z hz => ?_)
    · refine jn1_i (fun w : Int32 => ¬ w = 0 → sort = 2) (fun w hw => ?_) (fun z hz => ?_)
      · refine jn1_i (fun a : Int32 => ¬ a = 0 → ¬ sort = 0) (fun a ha => ?_) (fun z hz => ?_)
        · refine jn1_i (fun b : Int32 => 0 ≤ b.toInt ∧ b.toInt ≤ 9) (fun b hb => ?_) (fun z hz => ?_)
          · refine jn1_i (fun _ => True) (fun d _ => ?_) (fun z hz => ?_)
            · refine s_leaf h ha hb.1 hb.2 (fun fr₉ to₉ sort₉ w₉ fault₉ bad₉ nCode₉ nLeaves₉ op₉ ar₉ g1 g2 => un10_i ?_)
              have L : Q 3 (fr₉, to₉, sort₉, w₉, fault₉, bad₉, nCode₉, nLeaves₉, piled, opened, op₉, ar₉, pile, pat) := hq _ _ _ _ _ _ _ _ _ _ _ _ _ _ _ ⟨Or.inr ⟨rfl, g1⟩, fun q => (g2 q).1⟩
              by_cases c1 : ordered = 0
              · exact br1 c1 L
              · refine br0 c1 ?_
                by_cases c2 : y < 4
                · exact br1 c2 L
                · refine br0 c2 ?_
                  by_cases c3 : bad₉ = 0
                  · refine br1 c3 ?_
                    obtain ⟨n, p, f, h1, h2, h3, h4, h5, h6⟩ := id g1
                    obtain ⟨l1, m, l2, x0, l3⟩ := g2 c3
                    obtain rfl : n = m + 1 := by omega
                    have e1 := sub1 l2
                    have x1 := h4.1.2.1
                    obtain ⟨t1, t2, t3, t4, t5, t6, t7⟩ := id h5
                    have N : ∀ (lo hi : Int64), wp_X12_number lo hi taped fr₉ to₉ sort₉ w₉ fault₉ bad₉ tape (fun r => un6 fun u0 u1 u2 u3 u4 u5 => (vp_in (nCode₉ - 1) 400 ∧ Q 3 (u0, u1, u2, u3, u4, u5, nCode₉, nLeaves₉, piled, opened, op₉, upd ar₉ (nCode₉ - 1).toNatClampNeg r, pile, pat))) := fun lo hi =>
                      s_number h5 h6 (fun r f1 f2 f3 f4 f5 f6 k1 k2 k3 k4 => un6_i ⟨vpi e1 (by omega) (by omega), hq _ _ _ _ _ _ _ _ _ _ _ _ _ _ _ ⟨Or.inr ⟨rfl, m + 1, p, f1.toInt.toNat, h1, h2, by have := k1.1; omega, by
                        rw [tnN e1]
                        exact ((h4.imp (fun q => (k4 q).1)).arg x0 l3 r).more (by omega), k1, k3⟩, fun q => by have := (k4 q).2.1; omega⟩⟩)
                    by_cases c4 : y = 6
                    · exact br1 c4 (N 0 4)
                    · exact br0 c4 (N 0 5)
                  · exact br0 c3 L
            · by_cases c : w = 0
              · exact br1 c (hz _ trivial)
              · exact br0 c (hz _ trivial)
          · by_cases c : y = -1
            · exact br1 c (hz _ (by decide))
            · refine br0 c (hz _ ?_)
              rcases hy with hy | hy
              · exact (c hy).elim
              · omega
        · by_cases c : y = -1
          · refine br1 c ?_
            by_cases e : w = 0
            · exact br1 e (hz 0 (fun q => absurd rfl q))
            · exact br0 e (hz 1 (fun _ => nz_of (hw e) (by decide)))
          · refine br0 c (hz 1 (fun _ => ?_))
            rcases hy with hy | hy
            · exact (c hy).elim
            · exact nz_of hy.1 (by decide)
      · by_cases c : sort = 2
        · refine br1 c ?_
          by_cases e : 0 < lg_cmp worth 1000
          · exact br1 e (hz 0 (fun q => absurd rfl q))
          · exact br0 e (hz 1 (fun _ => c))
        · exact br0 c (hz 0 (fun q => absurd rfl q))
    · by_cases c : ordered = 0
      · exact br1 c (s_partAt (fun r hr => hz r hr))
      · refine br0 c (s_orderPartAt (fun r hr => hz r ?_))
        rcases hr with hr | hr
        · exact Or.inl hr
        · exact Or.inr ⟨hr.1, hr.2.1, by omega⟩
def RQ (s : Nat) (o0 a0 : Nat → Int32) (taped fr : Int32) (r fr₉ to₉ sort₉ bad₉ nCode₉ piled₉ : Int32) (pile₉ pat₉ op₉ ar₉ : Nat → Int32) : Prop := ((r = 0 ∧ RS 0 s o0 a0 taped fr₉ to₉ sort₉ bad₉ nCode₉ piled₉ pile₉ pat₉ op₉ ar₉ ∧ (bad₉ = 0 → NS piled₉ pile₉)) ∨ (r = 1 ∧ RS 0 s o0 a0 taped fr₉ to₉ sort₉ bad₉ nCode₉ piled₉ pile₉ pat₉ op₉ ar₉) ∨ (r = 3 ∧ RS 1 s o0 a0 taped fr₉ to₉ sort₉ bad₉ nCode₉ piled₉ pile₉ pat₉ op₉ ar₉)) ∧ (bad₉ = 0 → fr.toInt < fr₉.toInt)
theorem s_readPlain {s : Nat} {taped fr to sort : Int32} {worth : Int64} {fault bad ordered nCode nLeaves piled opened : Int32} {words oWords : Nat → Int64} {o0 a0 tape pile pat op ar : Nat → Int32} (h : RS 0 s o0 a0 taped fr to sort bad nCode piled pile pat op ar) (hb : bad = 0) (hN : NS piled pile) {Q : Int32 → (Int32 × Int32 × Int32 × Int64 × Int32 × Int32 × Int32 × Int32 × Int32 × Int32 × (Nat → Int32) × (Nat → Int32) × (Nat → Int32) × (Nat → Int32)) → Prop} (hq : ∀ (r fr₉ to₉ sort₉ : Int32) (worth₉ : Int64) (fault₉ bad₉ nCode₉ nLeaves₉ piled₉ opened₉ : Int32) (op₉ ar₉ pile₉ pat₉ : Nat → Int32), RQ s o0 a0 taped fr r fr₉ to₉ sort₉ bad₉ nCode₉ piled₉ pile₉ pat₉ op₉ ar₉ → Q r (fr₉, to₉, sort₉, worth₉, fault₉, bad₉, nCode₉, nLeaves₉, piled₉, opened₉, op₉, ar₉, pile₉, pat₉)) : wp_X12_readPlain taped fr to sort worth fault bad ordered nCode nLeaves piled opened words oWords tape op ar pile pat Q := by
  unfold wp_X12_readPlain
  refine e_isWord (fun s1 _ => ?_) ?_
  · obtain ⟨n, p, f, h1, h2, h3, h4, h5, h6⟩ := id h
    have a3 := h4.1.2.2.1
    obtain ⟨t1, t2, t3, t4, t5, t6, t7⟩ := id h5
    have t8 := t7 (nz_of s1 (by decide))
    refine br0 (by decide) ?_
    unfold wp_X12_push
    refine ⟨vpi h2 (by omega) (by omega), vpi h2 (by omega) (by omega), un3_i (h5.next (nz_of s1 (by decide)) (fun fr₉ to₉ sort₉ w₉ g1 g2 => un4_i (hq _ _ _ _ _ _ _ _ _ _ _ _ _ _ _ ⟨Or.inl ⟨rfl, ⟨n, p + 1, fr₉.toInt.toNat, h1, add1 h2 (by omega), by have := g2.1; omega, ?_, g2, h6⟩, fun _ => ?_⟩, fun _ => g1⟩)))⟩
    · rw [tnN h2]
      exact h4.push (t₉ := 0) 0 (by decide) (by decide) (by unfold isJ; decide) (by rw [if_neg (by decide)]) (Or.inr (Or.inr (fun k hk => hN k (by omega)))) (by omega)
    · rw [tnN h2]
      intro k hk
      rw [add1 h2 (by omega)] at hk
      by_cases e2 : k = p
      · rw [e2, pk_us]; decide
      · rw [pk_un e2]; exact hN k (by omega)
  · refine br1 rfl (e_isSign (fun s1 _ => ?_) ?_)
    · exact br0 (by decide) (s_openBracket h (nz_of s1 (by decide)) (Or.inr ⟨by decide, fun _ => hN⟩) (fun fr₉ to₉ sort₉ w₉ fault₉ bad₉ piled₉ opened₉ pile₉ pat₉ g1 g2 => un10_i (hq _ _ _ _ _ _ _ _ _ _ _ _ _ _ _ ⟨Or.inl ⟨rfl, g1, fun q => (g2 q).2 (by decide)⟩, fun q => (g2 q).1⟩)))
    · refine br1 rfl (s_readPart h (fun r fr₉ to₉ sort₉ w₉ fault₉ bad₉ nCode₉ nLeaves₉ piled₉ opened₉ op₉ ar₉ pile₉ pat₉ g => un14_i (hq _ _ _ _ _ _ _ _ _ _ _ _ _ _ _ ⟨?_, g.2⟩)))
      rcases g.1 with g1 | g1
      · exact Or.inr (Or.inl g1)
      · exact Or.inr (Or.inr g1)
end
section
/-! the reference₉s reader: behind a sum, behind a test, whole expressions -/
theorem s_isSign {a : Int32} {sort : Int32} {worth : Int64} {Q : Int32 → Prop} (h : ∀ r : Int32, (r = 0 ∨ (r = 1 ∧ sort = 3)) → Q r) : wp_X12_isSign a sort worth Q := e_isSign (fun s1 _ => h 1 (Or.inr ⟨rfl, s1⟩)) (h 0 (Or.inl rfl))
theorem s_isWord {a : Int64} {sort : Int32} {worth : Int64} {Q : Int32 → Prop} (h : ∀ r : Int32, (r = 0 ∨ (r = 1 ∧ sort = 1)) → Q r) : wp_X12_isWord a sort worth Q := e_isWord (fun s1 _ => h 1 (Or.inr ⟨rfl, s1⟩)) (h 0 (Or.inl rfl))
theorem nz_r {r sort v : Int32} (h : r = 0 ∨ (r = 1 ∧ sort = v)) (hv : ¬ v = 0) : ¬ r = 0 → ¬ sort = 0 := fun q => by
  rcases h with h | h
  · exact (q h).elim
  · exact nz_of h.2 hv
/-- no square bracket at all, where the inmost is none -/
theorem noSq {p : Nat} {pile : Nat → Int32} (hr : ∀ k, k < p → 20 ≤ (pile k).toInt ∧ (pile k).toInt ≤ 32) (hw : PW p pile) {v : Int32} (hv : (v = -1 ∧ ∀ k, k < p → (pile k).toInt ≤ 30) ∨ ∃ k, k < p ∧ v = pile k ∧ 31 ≤ (pile k).toInt ∧ ∀ j, k < j → j < p → (pile j).toInt ≤ 30) (hn : ¬ v = 32) : ∀ k, k < p → (pile k).toInt ≠ 32 := by
  intro j hj e
  rcases hv with ⟨_, h⟩ | ⟨k, k1, k2, k3, k4⟩
  · have := h j hj; omega
  · have k5 : ¬ (pile k).toInt = 32 := fun q => hn (by rw [k2]; exact z_eq (y := 32) rfl rfl q)
    by_cases c : j < k
    · have := hw j k c k1 e; omega
    · by_cases d : j = k
      · subst d; exact k5 e
      · have := k4 j (by omega) hj; omega
def RB (s : Nat) (o0 a0 : Nat → Int32) (taped fr : Int32) (r fr₉ to₉ sort₉ bad₉ nCode₉ piled₉ : Int32) (pile₉ pat₉ op₉ ar₉ : Nat → Int32) : Prop :=
  (r = 1 ∧ RS 0 s o0 a0 taped fr₉ to₉ sort₉ bad₉ nCode₉ piled₉ pile₉ pat₉ op₉ ar₉ ∧ (bad₉ = 0 → fr.toInt < fr₉.toInt)) ∨ (r = 3 ∧ RS 1 s o0 a0 taped fr₉ to₉ sort₉ bad₉ nCode₉ piled₉ pile₉ pat₉ op₉ ar₉ ∧ (bad₉ = 0 → fr.toInt < fr₉.toInt)) ∨ (r = 4 ∧ RS 1 s o0 a0 taped fr₉ to₉ sort₉ bad₉ nCode₉ piled₉ pile₉ pat₉ op₉ ar₉ ∧ NB piled₉ pile₉ ∧ fr = fr₉) ∨ (r = 2 ∧ RS 1 s o0 a0 taped fr₉ to₉ sort₉ bad₉ nCode₉ piled₉ pile₉ pat₉ op₉ ar₉ ∧ NS piled₉ pile₉ ∧ fr = fr₉)
theorem s_behindSum {s : Nat} {a taped fr to sort : Int32} {worth : Int64} {fault bad nCode piled opened : Int32} {o0 a0 tape pile pat op ar : Nat → Int32} (h : RS 1 s o0 a0 taped fr to sort bad nCode piled pile pat op ar) (hb : bad = 0) {Q : Int32 → (Int32 × Int32 × Int32 × Int64 × Int32 × Int32 × Int32 × Int32 × Int32 × (Nat → Int32) × (Nat → Int32) × (Nat → Int32) × (Nat → Int32)) → Prop} (hq : ∀ (r fr₉ to₉ sort₉ : Int32) (worth₉ : Int64) (fault₉ bad₉ nCode₉ piled₉ opened₉ : Int32) (pile₉ op₉ ar₉ pat₉ : Nat → Int32), RB s o0 a0 taped fr r fr₉ to₉ sort₉ bad₉ nCode₉ piled₉ pile₉ pat₉ op₉ ar₉ → Q r (fr₉, to₉, sort₉, worth₉, fault₉, bad₉, nCode₉, piled₉, opened₉, pile₉, op₉, ar₉, pat₉)) : wp_X12_behindSum a taped fr to sort worth fault bad nCode piled opened pile tape op ar pat Q := by
  unfold wp_X12_behindSum
  obtain ⟨n, p, f, h1, h2, h3, h4, h5, h6⟩ := id h
  obtain ⟨a1, a2, a3, a4, a5⟩ := h4.1
  have aw := h4.2.1
  obtain ⟨t1, t2, t3, t4, t5, t6, t7⟩ := id h5
  refine s_isSign (fun r hr => ?_)
  refine jn1_i (fun y : Int32 => y = -1 ∨ (20 ≤ y.toInt ∧ y.toInt ≤ 24 ∧ sort = 3)) (fun y hy => ?_) (fun z hz => ?_)
  · by_cases c : y = -1
    · refine br1 c ?_
      refine s_inner h2 (by omega) (fun v hv => ?_)
      by_cases c2 : v = 32
      · refine br1 c2 (s_isSign (fun r2 hr2 => ?_))
        refine s_must h5 (nz_r hr2 (by decide)) h6 (fun fr₉ to₉ sort₉ w₉ fault₉ bad₉ g1 g2 g3 g4 => un6_i ?_)
        by_cases c3 : bad₉ = 0
        · refine br1 c3 ?_
          obtain ⟨g5, -, g6⟩ := g4 c3
          refine s_settle (by omega) (by decide) h1 h2 (h4.imp (g₉ := bad₉ = 0) (fun _ => g5)) (fun n₉ p₉ c₉ q₉ op₉ ar₉ k1 k2 k3 k4 k5 k6 => un4_i ?_)
          rcases hv with ⟨hv, _⟩ | ⟨k, j1, j2, j3, j4⟩
          · rw [hv] at c2; exact absurd c2 (by decide)
          · have jk : (pile k).toInt = 32 := by rw [← j2, c2]; rfl
            have kp : k < p₉ := by
              refine Nat.lt_of_not_le (fun q => ?_)
              have := k5 k q j1
              have := bnd_v (pile k)
              have e5 : (5 : Int32).toInt = 5 := rfl
              omega
            rcases k6 with k6 | ⟨k2₉, k6, k7⟩
            · omega
            · have e5 : (5 : Int32).toInt = 5 := rfl
              have b2 := bnd_v (pile k2₉)
              have ek : k2₉ = k := by
                refine Classical.byContradiction (fun q => ?_)
                have := aw k k2₉ (by omega) (by omega) jk
                have := j4 k2₉ (by omega) (by omega)
                omega
              subst ek
              subst k6
              refine hq _ _ _ _ _ _ _ _ _ _ _ _ _ _ (Or.inr (Or.inl ⟨rfl, ⟨n₉, k2₉, fr₉.toInt.toNat, k1, sub1 k2, by have := g1.1; omega, (k3.close (by omega)).more (by omega), g1, g3⟩, fun _ => g6⟩))
        · refine br0 c3 (hq _ _ _ _ _ _ _ _ _ _ _ _ _ _ (Or.inr (Or.inl ⟨rfl, h.must g1 g2 g3 (fun q => (c3 q).elim), fun q => (c3 q).elim⟩)))
      · refine br0 c2 ?_
        have ns := noSq a4 aw hv c2
        have NS₉ : NS piled pile := fun k hk => ns k (by omega)
        refine jn1_i (fun _ => True) (fun _ _ => ?_) (fun z hz => ?_)
        · refine s_isCompared (by omega) (by omega) (fun r3 => ?_)
          by_cases c4 : r3 = 0
          · refine br1 c4 (s_isSign (fun r4 hr4 => ?_))
            refine jn1_i (fun y2 : Int32 => y2 = 27 ∨ (25 ≤ y2.toInt ∧ y2.toInt ≤ 26 ∧ sort = 3)) (fun y2 hy2 => ?_) (fun z2 hz2 => ?_)
            · refine jn1_i (fun y3 : Int32 => ¬ y3 = 0 → ¬ sort = 0) (fun y3 hy3 => ?_) (fun z3 hz3 => ?_)
              · refine s_must h5 hy3 h6 (fun fr₉ to₉ sort₉ w₉ fault₉ bad₉ g1 g2 g3 g4 => un6_i ?_)
                by_cases c5 : bad₉ = 0
                · refine br1 c5 ?_
                  obtain ⟨g5, g7, g6⟩ := g4 c5
                  have t8 := t7 (hy3 g7)
                  refine s_settle (by omega) (by decide) h1 h2 (h4.imp (g₉ := bad₉ = 0) (fun _ => g5)) (fun n₉ p₉ c₉ q₉ op₉ ar₉ k1 k2 k3 k4 k5 k6 => un4_i ?_)
                  have x3 := k3.1.2.2.1
                  have y25 : 25 ≤ y2.toInt ∧ y2.toInt ≤ 27 := by
                    rcases hy2 with e | e
                    · rw [e]; decide
                    · omega
                  unfold wp_X12_push
                  refine ⟨vpi k2 (by omega) (by omega), vpi k2 (by omega) (by omega), un3_i (hq _ _ _ _ _ _ _ _ _ _ _ _ _ _ (Or.inl ⟨rfl, ⟨n₉, p₉ + 1, fr₉.toInt.toNat, k1, add1 k2 (by omega), by have := g1.1; omega, ?_, g1, g3⟩, fun _ => g6⟩))⟩
                  rw [tnN k2]
                  exact k3.push (t₉ := 0) 0 (by omega) (by omega) (by unfold isJ; omega) (by rw [if_pos (by omega)]) (Or.inr (Or.inr (fun k hk => ns k (by omega)))) (by omega)
                · exact br0 c5 (hq _ _ _ _ _ _ _ _ _ _ _ _ _ _ (Or.inl ⟨rfl, (h.must g1 g2 g3 (fun q => (c5 q).elim)).bad c5, fun q => (c5 q).elim⟩))
              · by_cases c5 : y2 = 27
                · refine br1 c5 (s_isSign (fun r5 hr5 => ?_))
                  by_cases c6 : r5 = 0
                  · exact br1 c6 (hz3 0 (fun q => absurd rfl q))
                  · exact br0 c6 (hz3 1 (fun _ => nz_r hr5 (by decide) c6))
                · refine br0 c5 (hz3 1 (fun _ => ?_))
                  rcases hy2 with e | e
                  · exact (c5 e).elim
                  · exact nz_of e.2.2 (by decide)
            · by_cases c5 : r4 = 0
              · refine br1 c5 (e_isSign (fun s1 _ => br0 (by decide) (hz2 26 (Or.inr ⟨by decide, by decide, s1⟩))) (br1 rfl (hz2 27 (Or.inl rfl))))
              · refine br0 c5 (hz2 25 (Or.inr ⟨by decide, by decide, ?_⟩))
                rcases hr4 with e | e
                · exact (c5 e).elim
                · exact e.2
          · exact br0 c4 (hq _ _ _ _ _ _ _ _ _ _ _ _ _ _ (Or.inr (Or.inr (Or.inr ⟨rfl, h, NS₉, rfl⟩))))
        · by_cases c4 : v = -1
          · refine br1 c4 ?_
            by_cases c5 : a = 0
            · refine br1 c5 (hq _ _ _ _ _ _ _ _ _ _ _ _ _ _ (Or.inr (Or.inr (Or.inl ⟨rfl, h, fun k hk => ?_, rfl⟩))))
              rcases hv with ⟨_, e⟩ | ⟨k₉, _, e2, e3, _⟩
              · exact e k (by omega)
              · rw [← e2, c4] at e3; exact absurd e3 (by decide)
            · exact br0 c5 (hz _ trivial)
          · exact br0 c4 (hz _ trivial)
    · refine br0 c ?_
      obtain ⟨y1, y2, y3⟩ : 20 ≤ y.toInt ∧ y.toInt ≤ 24 ∧ sort = 3 := by
        rcases hy with e | e
        · exact (c e).elim
        · exact e
      have sz := nz_of y3 (by decide)
      have t8 := t7 sz
      refine e_binds ?_
      refine s_settle (by omega) (by have := bnd_v y; omega) h1 h2 h4 (fun n₉ p₉ c₉ q₉ op₉ ar₉ k1 k2 k3 k4 k5 k6 => un4_i ?_)
      have x3 := k3.1.2.2.1
      unfold wp_X12_push
      refine ⟨vpi k2 (by omega) (by omega), vpi k2 (by omega) (by omega), un3_i (h5.next sz (fun fr₉ to₉ sort₉ w₉ g1 g2 => un4_i (hq _ _ _ _ _ _ _ _ _ _ _ _ _ _ (Or.inl ⟨rfl, ⟨n₉, p₉ + 1, fr₉.toInt.toNat, k1, add1 k2 (by omega), by have := g2.1; omega, ?_, g2, h6⟩, fun _ => g1⟩))))⟩
      rw [tnN k2]
      exact k3.push (t₉ := 0) 0 (by omega) (by omega) (by unfold isJ; omega) (by rw [if_pos (by omega)]) (Or.inl (by omega)) (by omega)
  · have sg : ¬ r = 0 → sort = 3 := fun q => by
      rcases hr with e | e
      · exact (q e).elim
      · exact e.2
    by_cases c : r = 0
    · refine br1 c (e_isSign (fun s1 _ => br0 (by decide) (hz 21 (Or.inr ⟨by decide, by decide, s1⟩))) (br1 rfl ?_))
      refine e_isSign (fun s1 _ => br0 (by decide) (hz 22 (Or.inr ⟨by decide, by decide, s1⟩))) (br1 rfl ?_)
      refine e_isSign (fun s1 _ => br0 (by decide) (hz 23 (Or.inr ⟨by decide, by decide, s1⟩))) (br1 rfl ?_)
      exact e_isSign (fun s1 _ => br0 (by decide) (hz 24 (Or.inr ⟨by decide, by decide, s1⟩))) (br1 rfl (hz (-1) (Or.inl rfl)))
    · exact br0 c (hz 20 (Or.inr ⟨by decide, by decide, sg c⟩))
def RC (s : Nat) (o0 a0 : Nat → Int32) (taped fr : Int32) (r fr₉ to₉ sort₉ bad₉ nCode₉ piled₉ : Int32) (pile₉ pat₉ op₉ ar₉ : Nat → Int32) : Prop :=
  (r = 0 ∧ RS 0 s o0 a0 taped fr₉ to₉ sort₉ bad₉ nCode₉ piled₉ pile₉ pat₉ op₉ ar₉ ∧ (bad₉ = 0 → NS piled₉ pile₉) ∧ (bad₉ = 0 → fr.toInt < fr₉.toInt)) ∨ (r = 4 ∧ RS 1 s o0 a0 taped fr₉ to₉ sort₉ bad₉ nCode₉ piled₉ pile₉ pat₉ op₉ ar₉ ∧ NB piled₉ pile₉ ∧ fr = fr₉) ∨ (r = 2 ∧ RS 1 s o0 a0 taped fr₉ to₉ sort₉ bad₉ nCode₉ piled₉ pile₉ pat₉ op₉ ar₉ ∧ (bad₉ = 0 → NS piled₉ pile₉) ∧ (bad₉ = 0 → fr.toInt < fr₉.toInt))
theorem s_behindTest {s : Nat} {taped fr to sort : Int32} {worth : Int64} {fault bad nCode piled opened : Int32} {o0 a0 tape pile pat op ar : Nat → Int32} (h : RS 1 s o0 a0 taped fr to sort bad nCode piled pile pat op ar) (hb : bad = 0) (hN : NS piled pile) {Q : Int32 → (Int32 × Int32 × Int32 × Int64 × Int32 × Int32 × Int32 × Int32 × Int32 × (Nat → Int32) × (Nat → Int32) × (Nat → Int32) × (Nat → Int32)) → Prop} (hq : ∀ (r fr₉ to₉ sort₉ : Int32) (worth₉ : Int64) (fault₉ bad₉ nCode₉ piled₉ opened₉ : Int32) (pile₉ op₉ ar₉ pat₉ : Nat → Int32), RC s o0 a0 taped fr r fr₉ to₉ sort₉ bad₉ nCode₉ piled₉ pile₉ pat₉ op₉ ar₉ → Q r (fr₉, to₉, sort₉, worth₉, fault₉, bad₉, nCode₉, piled₉, opened₉, pile₉, op₉, ar₉, pat₉)) : wp_X12_behindTest taped fr to sort worth fault bad nCode piled opened pile tape op ar pat Q := by
  unfold wp_X12_behindTest
  obtain ⟨n, p, f, h1, h2, h3, h4, h5, h6⟩ := id h
  obtain ⟨a1, a2, a3, a4, a5⟩ := h4.1
  obtain ⟨t1, t2, t3, t4, t5, t6, t7⟩ := id h5
  refine s_isWord (fun r hr => ?_)
  refine jn1_i (fun _ => sort = 1) (fun _ s1 => ?_) (fun z hz => ?_)
  · have sz := nz_of s1 (by decide)
    have t8 := t7 sz
    refine jn1_i (fun y : Int32 => 1 ≤ y.toInt) (fun y hy => ?_) (fun z hz => ?_)
    · refine s_settle (by omega) hy h1 h2 h4 (fun n₉ p₉ c₉ q₉ op₉ ar₉ k1 k2 k3 k4 k5 k6 => un4_i ?_)
      have x2 := k3.1.2.1
      have x3 := k3.1.2.2.1
      have F : ∀ v : Int32, isJ v → ∀ (fr₉ to₉ sort₉ : Int32) (w₉ : Int64), fr.toInt < fr₉.toInt → Tk taped fr₉ to₉ sort₉ → Q 0 (fr₉, to₉, sort₉, w₉, fault, bad, c₉ + 1, q₉ + 1, opened, upd pile q₉.toNatClampNeg v, upd op₉ c₉.toNatClampNeg v, upd ar₉ c₉.toNatClampNeg 0, upd pat q₉.toNatClampNeg c₉) := fun v hv fr₉ to₉ sort₉ w₉ g1 g2 => by
        rw [tnN k1, tnN k2]
        refine hq _ _ _ _ _ _ _ _ _ _ _ _ _ _ (Or.inl ⟨rfl, ⟨n₉ + 1, p₉ + 1, fr₉.toInt.toNat, add1 k1 (by omega), add1 k2 (by omega), by have := g2.1; omega, k3.join hv k1 (fun k hk => hN k (by omega)) (by omega), g2, h6⟩, fun _ k hk => ?_, fun _ => g1⟩)
        rw [add1 k2 (by omega)] at hk
        by_cases e2 : k = p₉
        · rw [e2, pk_us]; unfold isJ at hv; omega
        · rw [pk_un e2]; exact hN k (by omega)
      refine jn1_i (fun y2 : Int32 => (r = 0 ∧ y2 = 30) ∨ (¬ r = 0 ∧ y2 = 29)) (fun y2 hy2 => ?_) (fun z2 hz2 => ?_)
      · unfold wp_X12_push
        refine ⟨vpi k2 (by omega) (by omega), vpi k2 (by omega) (by omega), un3_i ?_⟩
        unfold wp_X12_emit
        by_cases c : r = 0
        · have e : y2 = 30 := by
            rcases hy2 with e | e
            · exact e.2
            · exact (e.1 c).elim
          refine br1 c ⟨vpi k1 (by omega) (by omega), vpi k1 (by omega) (by omega), un3_i (h5.next sz (fun fr₉ to₉ sort₉ w₉ g1 g2 => un4_i ?_))⟩
          rw [e]
          exact F 30 ⟨by decide, by decide⟩ fr₉ to₉ sort₉ w₉ g1 g2
        · have e : y2 = 29 := by
            rcases hy2 with e | e
            · exact (c e.1).elim
            · exact e.2
          refine br0 c ⟨vpi k1 (by omega) (by omega), vpi k1 (by omega) (by omega), un3_i (h5.next sz (fun fr₉ to₉ sort₉ w₉ g1 g2 => un4_i ?_))⟩
          rw [e]
          exact F 29 ⟨by decide, by decide⟩ fr₉ to₉ sort₉ w₉ g1 g2
      · by_cases c : r = 0
        · exact br1 c (hz2 _ (Or.inl ⟨c, rfl⟩))
        · exact br0 c (hz2 _ (Or.inr ⟨c, rfl⟩))
    · by_cases c : r = 0
      · exact br1 c (hz _ (by decide))
      · exact br0 c (hz _ (by decide))
  · by_cases c : r = 0
    · refine br1 c (e_isWord (fun s1 _ => br0 (by decide) (hz _ s1)) (br1 rfl ?_))
      refine s_inner h2 (by omega) (fun v hv => ?_)
      by_cases c2 : v = -1
      · refine br1 c2 (hq _ _ _ _ _ _ _ _ _ _ _ _ _ _ (Or.inr (Or.inl ⟨rfl, h, fun k hk => ?_, rfl⟩)))
        rcases hv with ⟨_, e⟩ | ⟨k₉, _, e2, e3, _⟩
        · exact e k (by omega)
        · rw [← e2, c2] at e3; exact absurd e3 (by decide)
      · refine br0 c2 (s_isSign (fun r2 hr2 => ?_))
        refine s_must h5 (nz_r hr2 (by decide)) h6 (fun fr₉ to₉ sort₉ w₉ fault₉ bad₉ g1 g2 g3 g4 => un6_i ?_)
        by_cases c3 : bad₉ = 0
        · refine br1 c3 ?_
          obtain ⟨g5, -, g6⟩ := g4 c3
          refine s_settle (by omega) (by decide) h1 h2 (h4.imp (g₉ := bad₉ = 0) (fun _ => g5)) (fun n₉ p₉ c₉ q₉ op₉ ar₉ k1 k2 k3 k4 k5 k6 => un4_i ?_)
          rcases hv with ⟨hv, _⟩ | ⟨k, j1, j2, j3, j4⟩
          · exact (c2 hv).elim
          · have e1 : (1 : Int32).toInt = 1 := rfl
            have kp : k < p₉ := by
              refine Nat.lt_of_not_le (fun q => ?_)
              have := k5 k q j1
              have := bnd_v (pile k)
              omega
            rcases k6 with k6 | ⟨k2₉, k6, k7⟩
            · omega
            · have b2 := bnd_v (pile k2₉)
              subst k6
              refine hq _ _ _ _ _ _ _ _ _ _ _ _ _ _ (Or.inr (Or.inr ⟨rfl, ⟨n₉, k2₉, fr₉.toInt.toNat, k1, sub1 k2, by have := g1.1; omega, (k3.close (by omega)).more (by omega), g1, g3⟩, fun _ k hk => hN k (by rw [sub1 k2] at hk; omega), fun _ => g6⟩))
        · refine br0 c3 (hq _ _ _ _ _ _ _ _ _ _ _ _ _ _ (Or.inr (Or.inr ⟨rfl, h.must g1 g2 g3 (fun q => (c3 q).elim), fun q => (c3 q).elim, fun q => (c3 q).elim⟩)))
    · refine br0 c (hz _ ?_)
      rcases hr with e | e
      · exact (c e).elim
      · exact e.2
end
