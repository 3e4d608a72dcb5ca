set_option maxRecDepth 100000 in
theorem f_Si_12 : sx_F SC g_tbl "SiteChoice" 12 5 0 3 := ⟨"SiteChoice", T_Si, 6, rfl, la_Si, by decide, rfl, tb_ 194 (by decide +kernel) rfl⟩
set_option maxRecDepth 100000 in
theorem p_Si_12 : sx_Pf SC g_tbl "SiteChoice" 12 5 0 3 true (.object "SiteChoice$Town") := ⟨"SiteChoice", T_Si, 6, t_Si, rfl, la_Si, ty_Si, nm_Si, by decide, rfl, tb_ 194 (by decide +kernel) rfl, rfl, (fun _ => rfl), by decide +kernel⟩
set_option maxRecDepth 100000 in
theorem f_Si_19 : sx_F SC g_tbl "SiteChoice" 19 5 1 3 := ⟨"SiteChoice", T_Si, 6, rfl, la_Si, by decide, rfl, tb_ 195 (by decide +kernel) rfl⟩
set_option maxRecDepth 100000 in
theorem p_Si_19 : sx_Pf SC g_tbl "SiteChoice" 19 5 1 3 true (.object "SiteChoice$Search") := ⟨"SiteChoice", T_Si, 6, t_Si, rfl, la_Si, ty_Si, nm_Si, by decide, rfl, tb_ 195 (by decide +kernel) rfl, rfl, (fun _ => rfl), by decide +kernel⟩
set_option maxRecDepth 100000 in
theorem f_Si_26 : sx_F SC g_tbl "SiteChoice" 26 5 2 3 := ⟨"SiteChoice", T_Si, 6, rfl, la_Si, by decide, rfl, tb_ 196 (by decide +kernel) rfl⟩
set_option maxRecDepth 100000 in
theorem p_Si_26 : sx_Pf SC g_tbl "SiteChoice" 26 5 2 3 true (.object "SiteChoice$HeldPlan") := ⟨"SiteChoice", T_Si, 6, t_Si, rfl, la_Si, ty_Si, nm_Si, by decide, rfl, tb_ 196 (by decide +kernel) rfl, rfl, (fun _ => rfl), by decide +kernel⟩
set_option maxRecDepth 100000 in
theorem f_Si_33 : sx_F SC g_tbl "SiteChoice" 33 5 3 3 := ⟨"SiteChoice", T_Si, 6, rfl, la_Si, by decide, rfl, tb_ 197 (by decide +kernel) rfl⟩
set_option maxRecDepth 100000 in
theorem p_Si_33 : sx_Pf SC g_tbl "SiteChoice" 33 5 3 3 true (.object "SiteChoice$Unserved") := ⟨"SiteChoice", T_Si, 6, t_Si, rfl, la_Si, ty_Si, nm_Si, by decide, rfl, tb_ 197 (by decide +kernel) rfl, rfl, (fun _ => rfl), by decide +kernel⟩
set_option maxRecDepth 100000 in
theorem f_Si_40 : sx_F SC g_tbl "SiteChoice" 40 5 4 3 := ⟨"SiteChoice", T_Si, 6, rfl, la_Si, by decide, rfl, tb_ 198 (by decide +kernel) rfl⟩
set_option maxRecDepth 100000 in
theorem p_Si_40 : sx_Pf SC g_tbl "SiteChoice" 40 5 4 3 true (.object "SiteChoice$Calendar") := ⟨"SiteChoice", T_Si, 6, t_Si, rfl, la_Si, ty_Si, nm_Si, by decide, rfl, tb_ 198 (by decide +kernel) rfl, rfl, (fun _ => rfl), by decide +kernel⟩
set_option maxRecDepth 100000 in
theorem f_Si_44 : sx_F SC g_tbl "SiteChoice" 44 5 5 2 := ⟨"SiteChoice", T_Si, 6, rfl, la_Si, by decide, rfl, tb_ 199 (by decide +kernel) rfl⟩
set_option maxRecDepth 100000 in
theorem p_Si_44 : sx_Pf SC g_tbl "SiteChoice" 44 5 5 2 false (.boolean) := ⟨"SiteChoice", T_Si, 6, t_Si, rfl, la_Si, ty_Si, nm_Si, by decide, rfl, tb_ 199 (by decide +kernel) rfl, rfl, (fun h => by cases h), by decide +kernel⟩
set_option maxRecDepth 100000 in
theorem f_Si_48 : sx_F SC g_tbl "SiteChoice" 48 0 0 0 := ⟨"SiteChoice$Town", T_To, 12, rfl, la_To, by decide, rfl, tb_ 31 (by decide +kernel) rfl⟩
set_option maxRecDepth 100000 in
theorem f_Si_62 : sx_F SC g_tbl "SiteChoice" 62 0 1 0 := ⟨"SiteChoice$Town", T_To, 12, rfl, la_To, by decide, rfl, tb_ 36 (by decide +kernel) rfl⟩
set_option maxRecDepth 100000 in
theorem f_Si_84 : sx_F SC g_tbl "SiteChoice" 84 0 5 3 := ⟨"SiteChoice$Town", T_To, 12, rfl, la_To, by decide, rfl, tb_ 48 (by decide +kernel) rfl⟩
set_option maxRecDepth 100000 in
theorem f_Si_88 : sx_F SC g_tbl "SiteChoice" 88 0 11 3 := ⟨"SiteChoice$Town", T_To, 12, rfl, la_To, by decide, rfl, tb_ 59 (by decide +kernel) rfl⟩
set_option maxRecDepth 100000 in
theorem f_Si_94 : sx_F SC g_tbl "SiteChoice" 94 0 10 3 := ⟨"SiteChoice$Town", T_To, 12, rfl, la_To, by decide, rfl, tb_ 57 (by decide +kernel) rfl⟩
set_option maxRecDepth 100000 in
theorem p_Si_100 : sx_Pf SC g_tbl "SiteChoice" 100 0 2 1 false (.long) := ⟨"SiteChoice$Town", T_To, 12, t_To, rfl, la_To, ty_To, nm_To, by decide, rfl, tb_ 41 (by decide +kernel) rfl, rfl, (fun h => by cases h), by decide +kernel⟩
set_option maxRecDepth 100000 in
theorem f_Si_104 : sx_F SC g_tbl "SiteChoice" 104 0 4 3 := ⟨"SiteChoice$Town", T_To, 12, rfl, la_To, by decide, rfl, tb_ 46 (by decide +kernel) rfl⟩
set_option maxRecDepth 100000 in
theorem f_Si_131 : sx_F SC g_tbl "SiteChoice" 131 1 10 3 := ⟨"SiteChoice$Search", T_Se, 14, rfl, la_Se, by decide, rfl, tb_ 109 (by decide +kernel) rfl⟩
set_option maxRecDepth 100000 in
theorem f_Si_146 : sx_F SC g_tbl "SiteChoice" 146 2 0 2 := ⟨"SiteChoice$HeldPlan", T_He, 3, rfl, la_He, by decide, rfl, tb_ 150 (by decide +kernel) rfl⟩
set_option maxRecDepth 100000 in
theorem f_Si_149 : sx_F SC g_tbl "SiteChoice" 149 2 1 1 := ⟨"SiteChoice$HeldPlan", T_He, 3, rfl, la_He, by decide, rfl, tb_ 152 (by decide +kernel) rfl⟩
set_option maxRecDepth 100000 in
theorem f_Ca_9 : sx_F SC g_tbl "SiteChoice$Calendar" 9 4 0 0 := ⟨"SiteChoice$Calendar", T_Ca, 4, rfl, la_Ca, by decide, rfl, tb_ 181 (by decide +kernel) rfl⟩
set_option maxRecDepth 100000 in
theorem p_Ca_9 : sx_Pf SC g_tbl "SiteChoice$Calendar" 9 4 0 0 false (.int) := ⟨"SiteChoice$Calendar", T_Ca, 4, t_Ca, rfl, la_Ca, ty_Ca, nm_Ca, by decide, rfl, tb_ 181 (by decide +kernel) rfl, rfl, (fun h => by cases h), by decide +kernel⟩
set_option maxRecDepth 100000 in
theorem f_Ca_15 : sx_F SC g_tbl "SiteChoice$Calendar" 15 4 1 3 := ⟨"SiteChoice$Calendar", T_Ca, 4, rfl, la_Ca, by decide, rfl, tb_ 182 (by decide +kernel) rfl⟩
set_option maxRecDepth 100000 in
theorem p_Ca_15 : sx_Pf SC g_tbl "SiteChoice$Calendar" 15 4 1 3 true (.array .int) := ⟨"SiteChoice$Calendar", T_Ca, 4, t_Ca, rfl, la_Ca, ty_Ca, nm_Ca, by decide, rfl, tb_ 182 (by decide +kernel) rfl, rfl, (fun _ => rfl), by decide +kernel⟩
set_option maxRecDepth 100000 in
theorem f_Ca_21 : sx_F SC g_tbl "SiteChoice$Calendar" 21 4 2 3 := ⟨"SiteChoice$Calendar", T_Ca, 4, rfl, la_Ca, by decide, rfl, tb_ 183 (by decide +kernel) rfl⟩
set_option maxRecDepth 100000 in
theorem p_Ca_21 : sx_Pf SC g_tbl "SiteChoice$Calendar" 21 4 2 3 true (.array (.array .long)) := ⟨"SiteChoice$Calendar", T_Ca, 4, t_Ca, rfl, la_Ca, ty_Ca, nm_Ca, by decide, rfl, tb_ 183 (by decide +kernel) rfl, rfl, (fun _ => rfl), by decide +kernel⟩
set_option maxRecDepth 100000 in
theorem f_Ca_24 : sx_F SC g_tbl "SiteChoice$Calendar" 24 4 3 3 := ⟨"SiteChoice$Calendar", T_Ca, 4, rfl, la_Ca, by decide, rfl, tb_ 184 (by decide +kernel) rfl⟩
set_option maxRecDepth 100000 in
theorem p_Ca_24 : sx_Pf SC g_tbl "SiteChoice$Calendar" 24 4 3 3 true (.array (.array .long)) := ⟨"SiteChoice$Calendar", T_Ca, 4, t_Ca, rfl, la_Ca, ty_Ca, nm_Ca, by decide, rfl, tb_ 184 (by decide +kernel) rfl, rfl, (fun _ => rfl), by decide +kernel⟩
set_option maxRecDepth 100000 in
theorem f_Ca_33 : sx_F SC g_tbl "SiteChoice$Calendar" 33 0 1 0 := ⟨"SiteChoice$Town", T_To, 12, rfl, la_To, by decide, rfl, tb_ 37 (by decide +kernel) rfl⟩
set_option maxRecDepth 100000 in
theorem f_Ca_55 : sx_F SC g_tbl "SiteChoice$Calendar" 55 1 6 3 := ⟨"SiteChoice$Search", T_Se, 14, rfl, la_Se, by decide, rfl, tb_ 104 (by decide +kernel) rfl⟩
set_option maxRecDepth 100000 in
theorem f_Ca_62 : sx_F SC g_tbl "SiteChoice$Calendar" 62 1 5 3 := ⟨"SiteChoice$Search", T_Se, 14, rfl, la_Se, by decide, rfl, tb_ 102 (by decide +kernel) rfl⟩
set_option maxRecDepth 100000 in
theorem f_He_9 : sx_F SC g_tbl "SiteChoice$HeldPlan" 9 2 0 2 := ⟨"SiteChoice$HeldPlan", T_He, 3, rfl, la_He, by decide, rfl, tb_ 149 (by decide +kernel) rfl⟩
set_option maxRecDepth 100000 in
theorem p_He_9 : sx_Pf SC g_tbl "SiteChoice$HeldPlan" 9 2 0 2 false (.boolean) := ⟨"SiteChoice$HeldPlan", T_He, 3, t_He, rfl, la_He, ty_He, nm_He, by decide, rfl, tb_ 149 (by decide +kernel) rfl, rfl, (fun h => by cases h), by decide +kernel⟩
set_option maxRecDepth 100000 in
theorem f_He_15 : sx_F SC g_tbl "SiteChoice$HeldPlan" 15 2 1 1 := ⟨"SiteChoice$HeldPlan", T_He, 3, rfl, la_He, by decide, rfl, tb_ 151 (by decide +kernel) rfl⟩
set_option maxRecDepth 100000 in
theorem p_He_15 : sx_Pf SC g_tbl "SiteChoice$HeldPlan" 15 2 1 1 false (.long) := ⟨"SiteChoice$HeldPlan", T_He, 3, t_He, rfl, la_He, ty_He, nm_He, by decide, rfl, tb_ 151 (by decide +kernel) rfl, rfl, (fun h => by cases h), by decide +kernel⟩
set_option maxRecDepth 100000 in
theorem f_He_19 : sx_F SC g_tbl "SiteChoice$HeldPlan" 19 2 2 3 := ⟨"SiteChoice$HeldPlan", T_He, 3, rfl, la_He, by decide, rfl, tb_ 153 (by decide +kernel) rfl⟩
set_option maxRecDepth 100000 in
theorem p_He_19 : sx_Pf SC g_tbl "SiteChoice$HeldPlan" 19 2 2 3 true (.array .int) := ⟨"SiteChoice$HeldPlan", T_He, 3, t_He, rfl, la_He, ty_He, nm_He, by decide, rfl, tb_ 153 (by decide +kernel) rfl, rfl, (fun _ => rfl), by decide +kernel⟩
set_option maxRecDepth 100000 in
theorem f_He_33 : sx_F SC g_tbl "SiteChoice$HeldPlan" 33 0 0 0 := ⟨"SiteChoice$Town", T_To, 12, rfl, la_To, by decide, rfl, tb_ 33 (by decide +kernel) rfl⟩
set_option maxRecDepth 100000 in
theorem f_He_43 : sx_F SC g_tbl "SiteChoice$HeldPlan" 43 0 3 3 := ⟨"SiteChoice$Town", T_To, 12, rfl, la_To, by decide, rfl, tb_ 44 (by decide +kernel) rfl⟩
set_option maxRecDepth 100000 in
theorem f_He_47 : sx_F SC g_tbl "SiteChoice$HeldPlan" 47 0 5 3 := ⟨"SiteChoice$Town", T_To, 12, rfl, la_To, by decide, rfl, tb_ 49 (by decide +kernel) rfl⟩
set_option maxRecDepth 100000 in
theorem f_He_51 : sx_F SC g_tbl "SiteChoice$HeldPlan" 51 0 1 0 := ⟨"SiteChoice$Town", T_To, 12, rfl, la_To, by decide, rfl, tb_ 38 (by decide +kernel) rfl⟩
set_option maxRecDepth 100000 in
theorem f_Se_9 : sx_F SC g_tbl "SiteChoice$Search" 9 1 0 0 := ⟨"SiteChoice$Search", T_Se, 14, rfl, la_Se, by decide, rfl, tb_ 96 (by decide +kernel) rfl⟩
set_option maxRecDepth 100000 in
theorem p_Se_9 : sx_Pf SC g_tbl "SiteChoice$Search" 9 1 0 0 false (.int) := ⟨"SiteChoice$Search", T_Se, 14, t_Se, rfl, la_Se, ty_Se, nm_Se, by decide, rfl, tb_ 96 (by decide +kernel) rfl, rfl, (fun h => by cases h), by decide +kernel⟩
set_option maxRecDepth 100000 in
theorem f_Se_15 : sx_F SC g_tbl "SiteChoice$Search" 15 1 1 0 := ⟨"SiteChoice$Search", T_Se, 14, rfl, la_Se, by decide, rfl, tb_ 97 (by decide +kernel) rfl⟩
set_option maxRecDepth 100000 in
theorem p_Se_15 : sx_Pf SC g_tbl "SiteChoice$Search" 15 1 1 0 false (.int) := ⟨"SiteChoice$Search", T_Se, 14, t_Se, rfl, la_Se, ty_Se, nm_Se, by decide, rfl, tb_ 97 (by decide +kernel) rfl, rfl, (fun h => by cases h), by decide +kernel⟩
set_option maxRecDepth 100000 in
theorem f_Se_18 : sx_F SC g_tbl "SiteChoice$Search" 18 1 2 3 := ⟨"SiteChoice$Search", T_Se, 14, rfl, la_Se, by decide, rfl, tb_ 98 (by decide +kernel) rfl⟩
set_option maxRecDepth 100000 in
theorem p_Se_18 : sx_Pf SC g_tbl "SiteChoice$Search" 18 1 2 3 true (.array .long) := ⟨"SiteChoice$Search", T_Se, 14, t_Se, rfl, la_Se, ty_Se, nm_Se, by decide, rfl, tb_ 98 (by decide +kernel) rfl, rfl, (fun _ => rfl), by decide +kernel⟩
set_option maxRecDepth 100000 in
theorem f_Se_22 : sx_F SC g_tbl "SiteChoice$Search" 22 1 3 3 := ⟨"SiteChoice$Search", T_Se, 14, rfl, la_Se, by decide, rfl, tb_ 99 (by decide +kernel) rfl⟩
set_option maxRecDepth 100000 in
theorem p_Se_22 : sx_Pf SC g_tbl "SiteChoice$Search" 22 1 3 3 true (.array .long) := ⟨"SiteChoice$Search", T_Se, 14, t_Se, rfl, la_Se, ty_Se, nm_Se, by decide, rfl, tb_ 99 (by decide +kernel) rfl, rfl, (fun _ => rfl), by decide +kernel⟩
set_option maxRecDepth 100000 in
theorem f_Se_27 : sx_F SC g_tbl "SiteChoice$Search" 27 1 4 3 := ⟨"SiteChoice$Search", T_Se, 14, rfl, la_Se, by decide, rfl, tb_ 100 (by decide +kernel) rfl⟩
set_option maxRecDepth 100000 in
theorem p_Se_27 : sx_Pf SC g_tbl "SiteChoice$Search" 27 1 4 3 true (.array (.array .long)) := ⟨"SiteChoice$Search", T_Se, 14, t_Se, rfl, la_Se, ty_Se, nm_Se, by decide, rfl, tb_ 100 (by decide +kernel) rfl, rfl, (fun _ => rfl), by decide +kernel⟩
set_option maxRecDepth 100000 in
theorem f_Se_30 : sx_F SC g_tbl "SiteChoice$Search" 30 1 5 3 := ⟨"SiteChoice$Search", T_Se, 14, rfl, la_Se, by decide, rfl, tb_ 101 (by decide +kernel) rfl⟩
set_option maxRecDepth 100000 in
theorem p_Se_30 : sx_Pf SC g_tbl "SiteChoice$Search" 30 1 5 3 true (.array .boolean) := ⟨"SiteChoice$Search", T_Se, 14, t_Se, rfl, la_Se, ty_Se, nm_Se, by decide, rfl, tb_ 101 (by decide +kernel) rfl, rfl, (fun _ => rfl), by decide +kernel⟩
set_option maxRecDepth 100000 in
theorem f_Se_34 : sx_F SC g_tbl "SiteChoice$Search" 34 1 6 3 := ⟨"SiteChoice$Search", T_Se, 14, rfl, la_Se, by decide, rfl, tb_ 103 (by decide +kernel) rfl⟩
set_option maxRecDepth 100000 in
theorem p_Se_34 : sx_Pf SC g_tbl "SiteChoice$Search" 34 1 6 3 true (.array .long) := ⟨"SiteChoice$Search", T_Se, 14, t_Se, rfl, la_Se, ty_Se, nm_Se, by decide, rfl, tb_ 103 (by decide +kernel) rfl, rfl, (fun _ => rfl), by decide +kernel⟩
set_option maxRecDepth 100000 in
theorem f_Se_37 : sx_F SC g_tbl "SiteChoice$Search" 37 1 7 3 := ⟨"SiteChoice$Search", T_Se, 14, rfl, la_Se, by decide, rfl, tb_ 105 (by decide +kernel) rfl⟩
set_option maxRecDepth 100000 in
theorem p_Se_37 : sx_Pf SC g_tbl "SiteChoice$Search" 37 1 7 3 true (.array .long) := ⟨"SiteChoice$Search", T_Se, 14, t_Se, rfl, la_Se, ty_Se, nm_Se, by decide, rfl, tb_ 105 (by decide +kernel) rfl, rfl, (fun _ => rfl), by decide +kernel⟩
set_option maxRecDepth 100000 in
theorem f_Se_40 : sx_F SC g_tbl "SiteChoice$Search" 40 1 8 3 := ⟨"SiteChoice$Search", T_Se, 14, rfl, la_Se, by decide, rfl, tb_ 106 (by decide +kernel) rfl⟩
set_option maxRecDepth 100000 in
theorem p_Se_40 : sx_Pf SC g_tbl "SiteChoice$Search" 40 1 8 3 true (.array .long) := ⟨"SiteChoice$Search", T_Se, 14, t_Se, rfl, la_Se, ty_Se, nm_Se, by decide, rfl, tb_ 106 (by decide +kernel) rfl, rfl, (fun _ => rfl), by decide +kernel⟩
set_option maxRecDepth 100000 in
theorem f_Se_43 : sx_F SC g_tbl "SiteChoice$Search" 43 1 9 3 := ⟨"SiteChoice$Search", T_Se, 14, rfl, la_Se, by decide, rfl, tb_ 107 (by decide +kernel) rfl⟩
set_option maxRecDepth 100000 in
theorem p_Se_43 : sx_Pf SC g_tbl "SiteChoice$Search" 43 1 9 3 true (.array .int) := ⟨"SiteChoice$Search", T_Se, 14, t_Se, rfl, la_Se, ty_Se, nm_Se, by decide, rfl, tb_ 107 (by decide +kernel) rfl, rfl, (fun _ => rfl), by decide +kernel⟩
set_option maxRecDepth 100000 in
theorem f_Se_47 : sx_F SC g_tbl "SiteChoice$Search" 47 1 10 3 := ⟨"SiteChoice$Search", T_Se, 14, rfl, la_Se, by decide, rfl, tb_ 108 (by decide +kernel) rfl⟩
set_option maxRecDepth 100000 in
theorem p_Se_47 : sx_Pf SC g_tbl "SiteChoice$Search" 47 1 10 3 true (.array .int) := ⟨"SiteChoice$Search", T_Se, 14, t_Se, rfl, la_Se, ty_Se, nm_Se, by decide, rfl, tb_ 108 (by decide +kernel) rfl, rfl, (fun _ => rfl), by decide +kernel⟩
set_option maxRecDepth 100000 in
theorem f_Se_52 : sx_F SC g_tbl "SiteChoice$Search" 52 1 11 1 := ⟨"SiteChoice$Search", T_Se, 14, rfl, la_Se, by decide, rfl, tb_ 110 (by decide +kernel) rfl⟩
set_option maxRecDepth 100000 in
theorem p_Se_52 : sx_Pf SC g_tbl "SiteChoice$Search" 52 1 11 1 false (.long) := ⟨"SiteChoice$Search", T_Se, 14, t_Se, rfl, la_Se, ty_Se, nm_Se, by decide, rfl, tb_ 110 (by decide +kernel) rfl, rfl, (fun h => by cases h), by decide +kernel⟩
set_option maxRecDepth 100000 in
theorem f_Se_56 : sx_F SC g_tbl "SiteChoice$Search" 56 1 12 0 := ⟨"SiteChoice$Search", T_Se, 14, rfl, la_Se, by decide, rfl, tb_ 111 (by decide +kernel) rfl⟩
set_option maxRecDepth 100000 in
theorem p_Se_56 : sx_Pf SC g_tbl "SiteChoice$Search" 56 1 12 0 false (.int) := ⟨"SiteChoice$Search", T_Se, 14, t_Se, rfl, la_Se, ty_Se, nm_Se, by decide, rfl, tb_ 111 (by decide +kernel) rfl, rfl, (fun h => by cases h), by decide +kernel⟩
set_option maxRecDepth 100000 in
theorem f_Se_59 : sx_F SC g_tbl "SiteChoice$Search" 59 1 13 2 := ⟨"SiteChoice$Search", T_Se, 14, rfl, la_Se, by decide, rfl, tb_ 112 (by decide +kernel) rfl⟩
set_option maxRecDepth 100000 in
theorem p_Se_59 : sx_Pf SC g_tbl "SiteChoice$Search" 59 1 13 2 false (.boolean) := ⟨"SiteChoice$Search", T_Se, 14, t_Se, rfl, la_Se, ty_Se, nm_Se, by decide, rfl, tb_ 112 (by decide +kernel) rfl, rfl, (fun h => by cases h), by decide +kernel⟩
set_option maxRecDepth 100000 in
theorem f_Se_63 : sx_F SC g_tbl "SiteChoice$Search" 63 0 0 0 := ⟨"SiteChoice$Town", T_To, 12, rfl, la_To, by decide, rfl, tb_ 30 (by decide +kernel) rfl⟩
set_option maxRecDepth 100000 in
theorem f_Se_66 : sx_F SC g_tbl "SiteChoice$Search" 66 0 1 0 := ⟨"SiteChoice$Town", T_To, 12, rfl, la_To, by decide, rfl, tb_ 35 (by decide +kernel) rfl⟩
set_option maxRecDepth 100000 in
theorem f_Se_73 : sx_F SC g_tbl "SiteChoice$Search" 73 0 9 3 := ⟨"SiteChoice$Town", T_To, 12, rfl, la_To, by decide, rfl, tb_ 55 (by decide +kernel) rfl⟩
set_option maxRecDepth 100000 in
theorem f_Se_81 : sx_F SC g_tbl "SiteChoice$Search" 81 0 3 3 := ⟨"SiteChoice$Town", T_To, 12, rfl, la_To, by decide, rfl, tb_ 43 (by decide +kernel) rfl⟩
set_option maxRecDepth 100000 in
theorem f_Se_90 : sx_F SC g_tbl "SiteChoice$Search" 90 0 8 3 := ⟨"SiteChoice$Town", T_To, 12, rfl, la_To, by decide, rfl, tb_ 53 (by decide +kernel) rfl⟩
set_option maxRecDepth 100000 in
theorem f_Se_93 : sx_F SC g_tbl "SiteChoice$Search" 93 0 11 3 := ⟨"SiteChoice$Town", T_To, 12, rfl, la_To, by decide, rfl, tb_ 60 (by decide +kernel) rfl⟩
set_option maxRecDepth 100000 in
theorem f_Se_96 : sx_F SC g_tbl "SiteChoice$Search" 96 0 2 1 := ⟨"SiteChoice$Town", T_To, 12, rfl, la_To, by decide, rfl, tb_ 40 (by decide +kernel) rfl⟩
set_option maxRecDepth 100000 in
theorem f_To_9 : sx_F SC g_tbl "SiteChoice$Town" 9 0 0 0 := ⟨"SiteChoice$Town", T_To, 12, rfl, la_To, by decide, rfl, tb_ 29 (by decide +kernel) rfl⟩
set_option maxRecDepth 100000 in
theorem p_To_9 : sx_Pf SC g_tbl "SiteChoice$Town" 9 0 0 0 false (.int) := ⟨"SiteChoice$Town", T_To, 12, t_To, rfl, la_To, ty_To, nm_To, by decide, rfl, tb_ 29 (by decide +kernel) rfl, rfl, (fun h => by cases h), by decide +kernel⟩
set_option maxRecDepth 100000 in
theorem f_To_15 : sx_F SC g_tbl "SiteChoice$Town" 15 0 1 0 := ⟨"SiteChoice$Town", T_To, 12, rfl, la_To, by decide, rfl, tb_ 34 (by decide +kernel) rfl⟩
set_option maxRecDepth 100000 in
theorem p_To_15 : sx_Pf SC g_tbl "SiteChoice$Town" 15 0 1 0 false (.int) := ⟨"SiteChoice$Town", T_To, 12, t_To, rfl, la_To, ty_To, nm_To, by decide, rfl, tb_ 34 (by decide +kernel) rfl, rfl, (fun h => by cases h), by decide +kernel⟩
set_option maxRecDepth 100000 in
theorem p_To_20 : sx_Pf SC g_tbl "SiteChoice$Town" 20 0 2 1 false (.long) := ⟨"SiteChoice$Town", T_To, 12, t_To, rfl, la_To, ty_To, nm_To, by decide, rfl, tb_ 39 (by decide +kernel) rfl, rfl, (fun h => by cases h), by decide +kernel⟩
set_option maxRecDepth 100000 in
theorem f_To_24 : sx_F SC g_tbl "SiteChoice$Town" 24 0 3 3 := ⟨"SiteChoice$Town", T_To, 12, rfl, la_To, by decide, rfl, tb_ 42 (by decide +kernel) rfl⟩
set_option maxRecDepth 100000 in
theorem p_To_24 : sx_Pf SC g_tbl "SiteChoice$Town" 24 0 3 3 true (.array .long) := ⟨"SiteChoice$Town", T_To, 12, t_To, rfl, la_To, ty_To, nm_To, by decide, rfl, tb_ 42 (by decide +kernel) rfl, rfl, (fun _ => rfl), by decide +kernel⟩
set_option maxRecDepth 100000 in
theorem f_To_28 : sx_F SC g_tbl "SiteChoice$Town" 28 0 4 3 := ⟨"SiteChoice$Town", T_To, 12, rfl, la_To, by decide, rfl, tb_ 45 (by decide +kernel) rfl⟩
set_option maxRecDepth 100000 in
theorem p_To_28 : sx_Pf SC g_tbl "SiteChoice$Town" 28 0 4 3 true (.array .long) := ⟨"SiteChoice$Town", T_To, 12, t_To, rfl, la_To, ty_To, nm_To, by decide, rfl, tb_ 45 (by decide +kernel) rfl, rfl, (fun _ => rfl), by decide +kernel⟩
set_option maxRecDepth 100000 in
theorem f_To_33 : sx_F SC g_tbl "SiteChoice$Town" 33 0 5 3 := ⟨"SiteChoice$Town", T_To, 12, rfl, la_To, by decide, rfl, tb_ 47 (by decide +kernel) rfl⟩
set_option maxRecDepth 100000 in
theorem p_To_33 : sx_Pf SC g_tbl "SiteChoice$Town" 33 0 5 3 true (.array (.array .long)) := ⟨"SiteChoice$Town", T_To, 12, t_To, rfl, la_To, ty_To, nm_To, by decide, rfl, tb_ 47 (by decide +kernel) rfl, rfl, (fun _ => rfl), by decide +kernel⟩
set_option maxRecDepth 100000 in
theorem f_To_36 : sx_F SC g_tbl "SiteChoice$Town" 36 0 6 3 := ⟨"SiteChoice$Town", T_To, 12, rfl, la_To, by decide, rfl, tb_ 50 (by decide +kernel) rfl⟩
set_option maxRecDepth 100000 in
theorem p_To_36 : sx_Pf SC g_tbl "SiteChoice$Town" 36 0 6 3 true (.array .long) := ⟨"SiteChoice$Town", T_To, 12, t_To, rfl, la_To, ty_To, nm_To, by decide, rfl, tb_ 50 (by decide +kernel) rfl, rfl, (fun _ => rfl), by decide +kernel⟩
set_option maxRecDepth 100000 in
theorem f_To_39 : sx_F SC g_tbl "SiteChoice$Town" 39 0 7 3 := ⟨"SiteChoice$Town", T_To, 12, rfl, la_To, by decide, rfl, tb_ 51 (by decide +kernel) rfl⟩
set_option maxRecDepth 100000 in
theorem p_To_39 : sx_Pf SC g_tbl "SiteChoice$Town" 39 0 7 3 true (.array .long) := ⟨"SiteChoice$Town", T_To, 12, t_To, rfl, la_To, ty_To, nm_To, by decide, rfl, tb_ 51 (by decide +kernel) rfl, rfl, (fun _ => rfl), by decide +kernel⟩
set_option maxRecDepth 100000 in
theorem f_To_42 : sx_F SC g_tbl "SiteChoice$Town" 42 0 8 3 := ⟨"SiteChoice$Town", T_To, 12, rfl, la_To, by decide, rfl, tb_ 52 (by decide +kernel) rfl⟩
set_option maxRecDepth 100000 in
theorem p_To_42 : sx_Pf SC g_tbl "SiteChoice$Town" 42 0 8 3 true (.array .long) := ⟨"SiteChoice$Town", T_To, 12, t_To, rfl, la_To, ty_To, nm_To, by decide, rfl, tb_ 52 (by decide +kernel) rfl, rfl, (fun _ => rfl), by decide +kernel⟩
set_option maxRecDepth 100000 in
theorem f_To_45 : sx_F SC g_tbl "SiteChoice$Town" 45 0 9 3 := ⟨"SiteChoice$Town", T_To, 12, rfl, la_To, by decide, rfl, tb_ 54 (by decide +kernel) rfl⟩
set_option maxRecDepth 100000 in
theorem p_To_45 : sx_Pf SC g_tbl "SiteChoice$Town" 45 0 9 3 true (.array .long) := ⟨"SiteChoice$Town", T_To, 12, t_To, rfl, la_To, ty_To, nm_To, by decide, rfl, tb_ 54 (by decide +kernel) rfl, rfl, (fun _ => rfl), by decide +kernel⟩
set_option maxRecDepth 100000 in
theorem f_To_48 : sx_F SC g_tbl "SiteChoice$Town" 48 0 10 3 := ⟨"SiteChoice$Town", T_To, 12, rfl, la_To, by decide, rfl, tb_ 56 (by decide +kernel) rfl⟩
set_option maxRecDepth 100000 in
theorem p_To_48 : sx_Pf SC g_tbl "SiteChoice$Town" 48 0 10 3 true (.array .long) := ⟨"SiteChoice$Town", T_To, 12, t_To, rfl, la_To, ty_To, nm_To, by decide, rfl, tb_ 56 (by decide +kernel) rfl, rfl, (fun _ => rfl), by decide +kernel⟩
set_option maxRecDepth 100000 in
theorem f_To_51 : sx_F SC g_tbl "SiteChoice$Town" 51 0 11 3 := ⟨"SiteChoice$Town", T_To, 12, rfl, la_To, by decide, rfl, tb_ 58 (by decide +kernel) rfl⟩
set_option maxRecDepth 100000 in
theorem p_To_51 : sx_Pf SC g_tbl "SiteChoice$Town" 51 0 11 3 true (.array .boolean) := ⟨"SiteChoice$Town", T_To, 12, t_To, rfl, la_To, ty_To, nm_To, by decide, rfl, tb_ 58 (by decide +kernel) rfl, rfl, (fun _ => rfl), by decide +kernel⟩
set_option maxRecDepth 100000 in
theorem f_Un_9 : sx_F SC g_tbl "SiteChoice$Unserved" 9 3 0 0 := ⟨"SiteChoice$Unserved", T_Un, 2, rfl, la_Un, by decide, rfl, tb_ 167 (by decide +kernel) rfl⟩
set_option maxRecDepth 100000 in
theorem p_Un_9 : sx_Pf SC g_tbl "SiteChoice$Unserved" 9 3 0 0 false (.int) := ⟨"SiteChoice$Unserved", T_Un, 2, t_Un, rfl, la_Un, ty_Un, nm_Un, by decide, rfl, tb_ 167 (by decide +kernel) rfl, rfl, (fun h => by cases h), by decide +kernel⟩
set_option maxRecDepth 100000 in
theorem f_Un_15 : sx_F SC g_tbl "SiteChoice$Unserved" 15 3 1 3 := ⟨"SiteChoice$Unserved", T_Un, 2, rfl, la_Un, by decide, rfl, tb_ 168 (by decide +kernel) rfl⟩
set_option maxRecDepth 100000 in
theorem p_Un_15 : sx_Pf SC g_tbl "SiteChoice$Unserved" 15 3 1 3 true (.array .int) := ⟨"SiteChoice$Unserved", T_Un, 2, t_Un, rfl, la_Un, ty_Un, nm_Un, by decide, rfl, tb_ 168 (by decide +kernel) rfl, rfl, (fun _ => rfl), by decide +kernel⟩
set_option maxRecDepth 100000 in
theorem f_Un_19 : sx_F SC g_tbl "SiteChoice$Unserved" 19 0 0 0 := ⟨"SiteChoice$Town", T_To, 12, rfl, la_To, by decide, rfl, tb_ 32 (by decide +kernel) rfl⟩
set_option maxRecDepth 100000 in
theorem f_Mo_7 : sx_F SC g_tbl "SiteChoiceModel" 7 6 2 3 := ⟨"SiteChoiceModel", T_Mo, 25, rfl, la_Mo, by decide, rfl, tb_ 529 (by decide +kernel) rfl⟩
set_option maxRecDepth 100000 in
theorem p_Mo_7 : sx_Pf SC g_tbl "SiteChoiceModel" 7 6 2 3 true (.array .long) := ⟨"SiteChoiceModel", T_Mo, 25, t_Mo, rfl, la_Mo, ty_Mo, nm_Mo, by decide, rfl, tb_ 529 (by decide +kernel) rfl, rfl, (fun _ => rfl), by decide +kernel⟩
set_option maxRecDepth 100000 in
theorem f_Mo_13 : sx_F SC g_tbl "SiteChoiceModel" 13 6 3 3 := ⟨"SiteChoiceModel", T_Mo, 25, rfl, la_Mo, by decide, rfl, tb_ 530 (by decide +kernel) rfl⟩
set_option maxRecDepth 100000 in
theorem p_Mo_13 : sx_Pf SC g_tbl "SiteChoiceModel" 13 6 3 3 true (.array .long) := ⟨"SiteChoiceModel", T_Mo, 25, t_Mo, rfl, la_Mo, ty_Mo, nm_Mo, by decide, rfl, tb_ 530 (by decide +kernel) rfl, rfl, (fun _ => rfl), by decide +kernel⟩
set_option maxRecDepth 100000 in
theorem f_Mo_16 : sx_F SC g_tbl "SiteChoiceModel" 16 6 4 3 := ⟨"SiteChoiceModel", T_Mo, 25, rfl, la_Mo, by decide, rfl, tb_ 531 (by decide +kernel) rfl⟩
set_option maxRecDepth 100000 in
theorem p_Mo_16 : sx_Pf SC g_tbl "SiteChoiceModel" 16 6 4 3 true (.array .long) := ⟨"SiteChoiceModel", T_Mo, 25, t_Mo, rfl, la_Mo, ty_Mo, nm_Mo, by decide, rfl, tb_ 531 (by decide +kernel) rfl, rfl, (fun _ => rfl), by decide +kernel⟩
set_option maxRecDepth 100000 in
theorem f_Mo_19 : sx_F SC g_tbl "SiteChoiceModel" 19 6 5 3 := ⟨"SiteChoiceModel", T_Mo, 25, rfl, la_Mo, by decide, rfl, tb_ 532 (by decide +kernel) rfl⟩
set_option maxRecDepth 100000 in
theorem p_Mo_19 : sx_Pf SC g_tbl "SiteChoiceModel" 19 6 5 3 true (.array .long) := ⟨"SiteChoiceModel", T_Mo, 25, t_Mo, rfl, la_Mo, ty_Mo, nm_Mo, by decide, rfl, tb_ 532 (by decide +kernel) rfl, rfl, (fun _ => rfl), by decide +kernel⟩
set_option maxRecDepth 100000 in
theorem f_Mo_22 : sx_F SC g_tbl "SiteChoiceModel" 22 6 6 3 := ⟨"SiteChoiceModel", T_Mo, 25, rfl, la_Mo, by decide, rfl, tb_ 533 (by decide +kernel) rfl⟩
set_option maxRecDepth 100000 in
theorem p_Mo_22 : sx_Pf SC g_tbl "SiteChoiceModel" 22 6 6 3 true (.array .long) := ⟨"SiteChoiceModel", T_Mo, 25, t_Mo, rfl, la_Mo, ty_Mo, nm_Mo, by decide, rfl, tb_ 533 (by decide +kernel) rfl, rfl, (fun _ => rfl), by decide +kernel⟩
set_option maxRecDepth 100000 in
theorem f_Mo_25 : sx_F SC g_tbl "SiteChoiceModel" 25 6 7 3 := ⟨"SiteChoiceModel", T_Mo, 25, rfl, la_Mo, by decide, rfl, tb_ 534 (by decide +kernel) rfl⟩
set_option maxRecDepth 100000 in
theorem p_Mo_25 : sx_Pf SC g_tbl "SiteChoiceModel" 25 6 7 3 true (.array .long) := ⟨"SiteChoiceModel", T_Mo, 25, t_Mo, rfl, la_Mo, ty_Mo, nm_Mo, by decide, rfl, tb_ 534 (by decide +kernel) rfl, rfl, (fun _ => rfl), by decide +kernel⟩
set_option maxRecDepth 100000 in
theorem f_Mo_28 : sx_F SC g_tbl "SiteChoiceModel" 28 6 8 3 := ⟨"SiteChoiceModel", T_Mo, 25, rfl, la_Mo, by decide, rfl, tb_ 535 (by decide +kernel) rfl⟩
set_option maxRecDepth 100000 in
theorem p_Mo_28 : sx_Pf SC g_tbl "SiteChoiceModel" 28 6 8 3 true (.array .long) := ⟨"SiteChoiceModel", T_Mo, 25, t_Mo, rfl, la_Mo, ty_Mo, nm_Mo, by decide, rfl, tb_ 535 (by decide +kernel) rfl, rfl, (fun _ => rfl), by decide +kernel⟩
set_option maxRecDepth 100000 in
theorem f_Mo_31 : sx_F SC g_tbl "SiteChoiceModel" 31 6 9 3 := ⟨"SiteChoiceModel", T_Mo, 25, rfl, la_Mo, by decide, rfl, tb_ 536 (by decide +kernel) rfl⟩
set_option maxRecDepth 100000 in
theorem p_Mo_31 : sx_Pf SC g_tbl "SiteChoiceModel" 31 6 9 3 true (.array .boolean) := ⟨"SiteChoiceModel", T_Mo, 25, t_Mo, rfl, la_Mo, ty_Mo, nm_Mo, by decide, rfl, tb_ 536 (by decide +kernel) rfl, rfl, (fun _ => rfl), by decide +kernel⟩
set_option maxRecDepth 100000 in
theorem f_Mo_35 : sx_F SC g_tbl "SiteChoiceModel" 35 6 10 3 := ⟨"SiteChoiceModel", T_Mo, 25, rfl, la_Mo, by decide, rfl, tb_ 537 (by decide +kernel) rfl⟩
set_option maxRecDepth 100000 in
theorem p_Mo_35 : sx_Pf SC g_tbl "SiteChoiceModel" 35 6 10 3 true (.array .long) := ⟨"SiteChoiceModel", T_Mo, 25, t_Mo, rfl, la_Mo, ty_Mo, nm_Mo, by decide, rfl, tb_ 537 (by decide +kernel) rfl, rfl, (fun _ => rfl), by decide +kernel⟩
set_option maxRecDepth 100000 in
theorem f_Mo_40 : sx_F SC g_tbl "SiteChoiceModel" 40 6 11 1 := ⟨"SiteChoiceModel", T_Mo, 25, rfl, la_Mo, by decide, rfl, tb_ 538 (by decide +kernel) rfl⟩
set_option maxRecDepth 100000 in
theorem p_Mo_40 : sx_Pf SC g_tbl "SiteChoiceModel" 40 6 11 1 false (.long) := ⟨"SiteChoiceModel", T_Mo, 25, t_Mo, rfl, la_Mo, ty_Mo, nm_Mo, by decide, rfl, tb_ 538 (by decide +kernel) rfl, rfl, (fun h => by cases h), by decide +kernel⟩
set_option maxRecDepth 100000 in
theorem f_Mo_44 : sx_F SC g_tbl "SiteChoiceModel" 44 6 13 3 := ⟨"SiteChoiceModel", T_Mo, 25, rfl, la_Mo, by decide, rfl, tb_ 540 (by decide +kernel) rfl⟩
set_option maxRecDepth 100000 in
theorem p_Mo_44 : sx_Pf SC g_tbl "SiteChoiceModel" 44 6 13 3 true (.array .int) := ⟨"SiteChoiceModel", T_Mo, 25, t_Mo, rfl, la_Mo, ty_Mo, nm_Mo, by decide, rfl, tb_ 540 (by decide +kernel) rfl, rfl, (fun _ => rfl), by decide +kernel⟩
set_option maxRecDepth 100000 in
theorem f_Mo_48 : sx_F SC g_tbl "SiteChoiceModel" 48 6 18 3 := ⟨"SiteChoiceModel", T_Mo, 25, rfl, la_Mo, by decide, rfl, tb_ 545 (by decide +kernel) rfl⟩
set_option maxRecDepth 100000 in
theorem p_Mo_48 : sx_Pf SC g_tbl "SiteChoiceModel" 48 6 18 3 true (.array .int) := ⟨"SiteChoiceModel", T_Mo, 25, t_Mo, rfl, la_Mo, ty_Mo, nm_Mo, by decide, rfl, tb_ 545 (by decide +kernel) rfl, rfl, (fun _ => rfl), by decide +kernel⟩
set_option maxRecDepth 100000 in
theorem f_Mo_51 : sx_F SC g_tbl "SiteChoiceModel" 51 6 19 3 := ⟨"SiteChoiceModel", T_Mo, 25, rfl, la_Mo, by decide, rfl, tb_ 546 (by decide +kernel) rfl⟩
set_option maxRecDepth 100000 in
theorem p_Mo_51 : sx_Pf SC g_tbl "SiteChoiceModel" 51 6 19 3 true (.array .int) := ⟨"SiteChoiceModel", T_Mo, 25, t_Mo, rfl, la_Mo, ty_Mo, nm_Mo, by decide, rfl, tb_ 546 (by decide +kernel) rfl, rfl, (fun _ => rfl), by decide +kernel⟩
set_option maxRecDepth 100000 in
theorem f_Mo_54 : sx_F SC g_tbl "SiteChoiceModel" 54 6 20 3 := ⟨"SiteChoiceModel", T_Mo, 25, rfl, la_Mo, by decide, rfl, tb_ 547 (by decide +kernel) rfl⟩
set_option maxRecDepth 100000 in
theorem p_Mo_54 : sx_Pf SC g_tbl "SiteChoiceModel" 54 6 20 3 true (.array .long) := ⟨"SiteChoiceModel", T_Mo, 25, t_Mo, rfl, la_Mo, ty_Mo, nm_Mo, by decide, rfl, tb_ 547 (by decide +kernel) rfl, rfl, (fun _ => rfl), by decide +kernel⟩
set_option maxRecDepth 100000 in
theorem f_Mo_57 : sx_F SC g_tbl "SiteChoiceModel" 57 6 21 3 := ⟨"SiteChoiceModel", T_Mo, 25, rfl, la_Mo, by decide, rfl, tb_ 548 (by decide +kernel) rfl⟩
set_option maxRecDepth 100000 in
theorem p_Mo_57 : sx_Pf SC g_tbl "SiteChoiceModel" 57 6 21 3 true (.array .int) := ⟨"SiteChoiceModel", T_Mo, 25, t_Mo, rfl, la_Mo, ty_Mo, nm_Mo, by decide, rfl, tb_ 548 (by decide +kernel) rfl, rfl, (fun _ => rfl), by decide +kernel⟩
set_option maxRecDepth 100000 in
theorem f_Mo_60 : sx_F SC g_tbl "SiteChoiceModel" 60 6 22 3 := ⟨"SiteChoiceModel", T_Mo, 25, rfl, la_Mo, by decide, rfl, tb_ 549 (by decide +kernel) rfl⟩
set_option maxRecDepth 100000 in
theorem p_Mo_60 : sx_Pf SC g_tbl "SiteChoiceModel" 60 6 22 3 true (.array .long) := ⟨"SiteChoiceModel", T_Mo, 25, t_Mo, rfl, la_Mo, ty_Mo, nm_Mo, by decide, rfl, tb_ 549 (by decide +kernel) rfl, rfl, (fun _ => rfl), by decide +kernel⟩
set_option maxRecDepth 100000 in
theorem f_Mo_63 : sx_F SC g_tbl "SiteChoiceModel" 63 6 23 3 := ⟨"SiteChoiceModel", T_Mo, 25, rfl, la_Mo, by decide, rfl, tb_ 550 (by decide +kernel) rfl⟩
set_option maxRecDepth 100000 in
theorem p_Mo_63 : sx_Pf SC g_tbl "SiteChoiceModel" 63 6 23 3 true (.array .long) := ⟨"SiteChoiceModel", T_Mo, 25, t_Mo, rfl, la_Mo, ty_Mo, nm_Mo, by decide, rfl, tb_ 550 (by decide +kernel) rfl, rfl, (fun _ => rfl), by decide +kernel⟩
set_option maxRecDepth 100000 in
theorem f_Mo_66 : sx_F SC g_tbl "SiteChoiceModel" 66 6 24 3 := ⟨"SiteChoiceModel", T_Mo, 25, rfl, la_Mo, by decide, rfl, tb_ 551 (by decide +kernel) rfl⟩
set_option maxRecDepth 100000 in
theorem p_Mo_66 : sx_Pf SC g_tbl "SiteChoiceModel" 66 6 24 3 true (.array .long) := ⟨"SiteChoiceModel", T_Mo, 25, t_Mo, rfl, la_Mo, ty_Mo, nm_Mo, by decide, rfl, tb_ 551 (by decide +kernel) rfl, rfl, (fun _ => rfl), by decide +kernel⟩
set_option maxRecDepth 100000 in
theorem f_Mo_73 : sx_F SC g_tbl "SiteChoiceModel" 73 6 0 0 := ⟨"SiteChoiceModel", T_Mo, 25, rfl, la_Mo, by decide, rfl, tb_ 527 (by decide +kernel) rfl⟩
set_option maxRecDepth 100000 in
theorem p_Mo_73 : sx_Pf SC g_tbl "SiteChoiceModel" 73 6 0 0 false (.int) := ⟨"SiteChoiceModel", T_Mo, 25, t_Mo, rfl, la_Mo, ty_Mo, nm_Mo, by decide, rfl, tb_ 527 (by decide +kernel) rfl, rfl, (fun h => by cases h), by decide +kernel⟩
set_option maxRecDepth 100000 in
theorem f_Mo_77 : sx_F SC g_tbl "SiteChoiceModel" 77 6 1 0 := ⟨"SiteChoiceModel", T_Mo, 25, rfl, la_Mo, by decide, rfl, tb_ 528 (by decide +kernel) rfl⟩
set_option maxRecDepth 100000 in
theorem p_Mo_77 : sx_Pf SC g_tbl "SiteChoiceModel" 77 6 1 0 false (.int) := ⟨"SiteChoiceModel", T_Mo, 25, t_Mo, rfl, la_Mo, ty_Mo, nm_Mo, by decide, rfl, tb_ 528 (by decide +kernel) rfl, rfl, (fun h => by cases h), by decide +kernel⟩
set_option maxRecDepth 100000 in
theorem f_Mo_86 : sx_F SC g_tbl "SiteChoiceModel" 86 6 15 2 := ⟨"SiteChoiceModel", T_Mo, 25, rfl, la_Mo, by decide, rfl, tb_ 542 (by decide +kernel) rfl⟩
set_option maxRecDepth 100000 in
theorem p_Mo_86 : sx_Pf SC g_tbl "SiteChoiceModel" 86 6 15 2 false (.boolean) := ⟨"SiteChoiceModel", T_Mo, 25, t_Mo, rfl, la_Mo, ty_Mo, nm_Mo, by decide, rfl, tb_ 542 (by decide +kernel) rfl, rfl, (fun h => by cases h), by decide +kernel⟩
set_option maxRecDepth 100000 in
theorem f_Mo_140 : sx_F SC g_tbl "SiteChoiceModel" 140 6 16 0 := ⟨"SiteChoiceModel", T_Mo, 25, rfl, la_Mo, by decide, rfl, tb_ 543 (by decide +kernel) rfl⟩
set_option maxRecDepth 100000 in
theorem p_Mo_140 : sx_Pf SC g_tbl "SiteChoiceModel" 140 6 16 0 false (.int) := ⟨"SiteChoiceModel", T_Mo, 25, t_Mo, rfl, la_Mo, ty_Mo, nm_Mo, by decide, rfl, tb_ 543 (by decide +kernel) rfl, rfl, (fun h => by cases h), by decide +kernel⟩
set_option maxRecDepth 100000 in
theorem f_Mo_161 : sx_F SC g_tbl "SiteChoiceModel" 161 6 12 2 := ⟨"SiteChoiceModel", T_Mo, 25, rfl, la_Mo, by decide, rfl, tb_ 539 (by decide +kernel) rfl⟩
set_option maxRecDepth 100000 in
theorem p_Mo_161 : sx_Pf SC g_tbl "SiteChoiceModel" 161 6 12 2 false (.boolean) := ⟨"SiteChoiceModel", T_Mo, 25, t_Mo, rfl, la_Mo, ty_Mo, nm_Mo, by decide, rfl, tb_ 539 (by decide +kernel) rfl, rfl, (fun h => by cases h), by decide +kernel⟩
set_option maxRecDepth 100000 in
theorem f_Mo_171 : sx_F SC g_tbl "SiteChoiceModel" 171 6 14 1 := ⟨"SiteChoiceModel", T_Mo, 25, rfl, la_Mo, by decide, rfl, tb_ 541 (by decide +kernel) rfl⟩
set_option maxRecDepth 100000 in
theorem p_Mo_171 : sx_Pf SC g_tbl "SiteChoiceModel" 171 6 14 1 false (.long) := ⟨"SiteChoiceModel", T_Mo, 25, t_Mo, rfl, la_Mo, ty_Mo, nm_Mo, by decide, rfl, tb_ 541 (by decide +kernel) rfl, rfl, (fun h => by cases h), by decide +kernel⟩
set_option maxRecDepth 100000 in
theorem f_Mo_187 : sx_F SC g_tbl "SiteChoiceModel" 187 6 17 0 := ⟨"SiteChoiceModel", T_Mo, 25, rfl, la_Mo, by decide, rfl, tb_ 544 (by decide +kernel) rfl⟩
set_option maxRecDepth 100000 in
theorem p_Mo_187 : sx_Pf SC g_tbl "SiteChoiceModel" 187 6 17 0 false (.int) := ⟨"SiteChoiceModel", T_Mo, 25, t_Mo, rfl, la_Mo, ty_Mo, nm_Mo, by decide, rfl, tb_ 544 (by decide +kernel) rfl, rfl, (fun h => by cases h), by decide +kernel⟩
