/-! words, a piece (own work) -/
set_option maxRecDepth 20000 in
theorem mc_cw_0 : mc_mi_0.map (fun i => (mc_ch i.1.1)[i.1.2]?) = mc_mt_0.map (fun q => some (Cond.code q.2.1 q.2.2.1 q.2.2.2.1 q.2.2.2.2.1)) := rfl
set_option maxRecDepth 20000 in
theorem mc_cw_1 : mc_mi_1.map (fun i => (mc_ch i.1.1)[i.1.2]?) = mc_mt_1.map (fun q => some (Cond.code q.2.1 q.2.2.1 q.2.2.2.1 q.2.2.2.2.1)) := rfl
set_option maxRecDepth 20000 in
theorem mc_cw_2 : mc_mi_2.map (fun i => (mc_ch i.1.1)[i.1.2]?) = mc_mt_2.map (fun q => some (Cond.code q.2.1 q.2.2.1 q.2.2.2.1 q.2.2.2.2.1)) := rfl
set_option maxRecDepth 20000 in
theorem mc_cw_3 : mc_mi_3.map (fun i => (mc_ch i.1.1)[i.1.2]?) = mc_mt_3.map (fun q => some (Cond.code q.2.1 q.2.2.1 q.2.2.2.1 q.2.2.2.2.1)) := rfl
set_option maxRecDepth 20000 in
theorem mc_cw_4 : mc_mi_4.map (fun i => (mc_ch i.1.1)[i.1.2]?) = mc_mt_4.map (fun q => some (Cond.code q.2.1 q.2.2.1 q.2.2.2.1 q.2.2.2.2.1)) := rfl
set_option maxRecDepth 20000 in
theorem mc_cw_5 : mc_mi_5.map (fun i => (mc_ch i.1.1)[i.1.2]?) = mc_mt_5.map (fun q => some (Cond.code q.2.1 q.2.2.1 q.2.2.2.1 q.2.2.2.2.1)) := rfl
set_option maxRecDepth 20000 in
theorem mc_cw_6 : mc_mi_6.map (fun i => (mc_ch i.1.1)[i.1.2]?) = mc_mt_6.map (fun q => some (Cond.code q.2.1 q.2.2.1 q.2.2.2.1 q.2.2.2.2.1)) := rfl
set_option maxRecDepth 20000 in
theorem mc_cw_7 : mc_mi_7.map (fun i => (mc_ch i.1.1)[i.1.2]?) = mc_mt_7.map (fun q => some (Cond.code q.2.1 q.2.2.1 q.2.2.2.1 q.2.2.2.2.1)) := rfl
set_option maxRecDepth 20000 in
theorem mc_cw_8 : mc_mi_8.map (fun i => (mc_ch i.1.1)[i.1.2]?) = mc_mt_8.map (fun q => some (Cond.code q.2.1 q.2.2.1 q.2.2.2.1 q.2.2.2.2.1)) := rfl
set_option maxRecDepth 20000 in
theorem mc_cw_9 : mc_mi_9.map (fun i => (mc_ch i.1.1)[i.1.2]?) = mc_mt_9.map (fun q => some (Cond.code q.2.1 q.2.2.1 q.2.2.2.1 q.2.2.2.2.1)) := rfl
