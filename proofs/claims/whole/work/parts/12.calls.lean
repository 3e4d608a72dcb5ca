set_option maxRecDepth 100000 in
theorem gd_ : g_tbl.all goodWord = true := List.all_eq_true.mpr (fun w h => (List.mem_filter.mp h).2)
set_option maxRecDepth 100000 in
theorem gi_ {ws : List Cond} (h : ∀ w ∈ ws, w ∈ g_tbl) : GoodIn g_tbl ws := fun w hw => ⟨h w hw, good_of_word (List.all_eq_true.mp gd_ w (h w hw))⟩
set_option maxRecDepth 100000 in
theorem k_Si_init : Cond.code y_Si_init c_Si_init 1 none ∈ g_tbl := tb_ 16 rfl rfl
set_option maxRecDepth 100000 in
theorem u_Si_init : ∀ w ∈ w_Si_init, w ∈ g_tbl := fun w h => (List.mem_cons.mp h).elim (fun e => by rw [e]; exact k_Si_init) id
set_option maxRecDepth 100000 in
theorem k_Si_district : Cond.code y_Si_district c_Si_district 3 (some .int) ∈ g_tbl := tb_ 216 rfl rfl
set_option maxRecDepth 100000 in
theorem u_Si_district : ∀ w ∈ w_Si_district, w ∈ g_tbl := fun w h => (List.mem_cons.mp h).elim (fun e => by rw [e]; exact k_Si_district) id
set_option maxRecDepth 100000 in
theorem k_Si_place : Cond.code y_Si_place c_Si_place 9 (some .int) ∈ g_tbl := tb_ 233 rfl rfl
set_option maxRecDepth 100000 in
theorem u_Si_place : ∀ w ∈ w_Si_place, w ∈ g_tbl := fun w h => (List.mem_cons.mp h).elim (fun e => by rw [e]; exact k_Si_place) id
set_option maxRecDepth 100000 in
theorem k_Si_walk : Cond.code y_Si_walk c_Si_walk 5 (some .boolean) ∈ g_tbl := tb_ 244 rfl rfl
set_option maxRecDepth 100000 in
theorem u_Si_walk : ∀ w ∈ w_Si_walk, w ∈ g_tbl := fun w h => (List.mem_cons.mp h).elim (fun e => by rw [e]; exact k_Si_walk) id
set_option maxRecDepth 100000 in
theorem k_Si_bar : Cond.code y_Si_bar c_Si_bar 2 (some .boolean) ∈ g_tbl := tb_ 257 rfl rfl
set_option maxRecDepth 100000 in
theorem u_Si_bar : ∀ w ∈ w_Si_bar, w ∈ g_tbl := fun w h => (List.mem_cons.mp h).elim (fun e => by rw [e]; exact k_Si_bar) id
set_option maxRecDepth 100000 in
theorem k_Si_noise : Cond.code y_Si_noise c_Si_noise 4 (some .boolean) ∈ g_tbl := tb_ 261 rfl rfl
set_option maxRecDepth 100000 in
theorem u_Si_noise : ∀ w ∈ w_Si_noise, w ∈ g_tbl := fun w h => (List.mem_cons.mp h).elim (fun e => by rw [e]; exact k_Si_noise) id
set_option maxRecDepth 100000 in
theorem k_Si_budget : Cond.code y_Si_budget c_Si_budget 3 (some .boolean) ∈ g_tbl := tb_ 266 rfl rfl
set_option maxRecDepth 100000 in
theorem u_Si_budget : ∀ w ∈ w_Si_budget, w ∈ g_tbl := fun w h => (List.mem_cons.mp h).elim (fun e => by rw [e]; exact k_Si_budget) id
set_option maxRecDepth 100000 in
theorem k_Si_fair : Cond.code y_Si_fair c_Si_fair 4 (some .boolean) ∈ g_tbl := tb_ 271 rfl rfl
set_option maxRecDepth 100000 in
theorem u_Si_fair : ∀ w ∈ w_Si_fair, w ∈ g_tbl := fun w h => (List.mem_cons.mp h).elim (fun e => by rw [e]; exact k_Si_fair) id
set_option maxRecDepth 100000 in
theorem k_Si_ways : Cond.code y_Si_ways c_Si_ways 1 (some .long) ∈ g_tbl := tb_ 275 rfl rfl
set_option maxRecDepth 100000 in
theorem u_Si_ways : ∀ w ∈ w_Si_ways, w ∈ g_tbl := fun w h => (List.mem_cons.mp h).elim (fun e => by rw [e]; exact k_Si_ways) id
set_option maxRecDepth 100000 in
theorem k_Si_run : Cond.code y_Si_run c_Si_run 5 (some .int) ∈ g_tbl := tb_ 293 rfl rfl
set_option maxRecDepth 100000 in
theorem u_Si_run : ∀ w ∈ w_Si_run, w ∈ g_tbl := fun w h => (List.mem_cons.mp h).elim (fun e => by rw [e]; exact k_Si_run) id
set_option maxRecDepth 100000 in
theorem k_Si_chosen : Cond.code y_Si_chosen c_Si_chosen 2 (some .boolean) ∈ g_tbl := tb_ 409 rfl rfl
set_option maxRecDepth 100000 in
theorem u_Si_chosen : ∀ w ∈ w_Si_chosen, w ∈ g_tbl := fun w h => (List.mem_cons.mp h).elim (fun e => by rw [e]; exact k_Si_chosen) id
set_option maxRecDepth 100000 in
theorem k_Si_of : Cond.code y_Si_of c_Si_of 2 (some .int) ∈ g_tbl := tb_ 421 rfl rfl
set_option maxRecDepth 100000 in
theorem u_Si_of : ∀ w ∈ w_Si_of, w ∈ g_tbl := fun w h => (List.mem_cons.mp h).elim (fun e => by rw [e]; exact k_Si_of) id
set_option maxRecDepth 100000 in
theorem k_Si_sum : Cond.code y_Si_sum c_Si_sum 1 (some .long) ∈ g_tbl := tb_ 426 rfl rfl
set_option maxRecDepth 100000 in
theorem u_Si_sum : ∀ w ∈ w_Si_sum, w ∈ g_tbl := fun w h => (List.mem_cons.mp h).elim (fun e => by rw [e]; exact k_Si_sum) id
set_option maxRecDepth 100000 in
theorem k_Si_bound : Cond.code y_Si_bound c_Si_bound 1 (some .long) ∈ g_tbl := tb_ 430 rfl rfl
set_option maxRecDepth 100000 in
theorem u_Si_bound : ∀ w ∈ w_Si_bound, w ∈ g_tbl := fun w h => (List.mem_cons.mp h).elim (fun e => by rw [e]; exact k_Si_bound) id
set_option maxRecDepth 100000 in
theorem k_Si_proved : Cond.code y_Si_proved c_Si_proved 1 (some .boolean) ∈ g_tbl := tb_ 438 rfl rfl
set_option maxRecDepth 100000 in
theorem u_Si_proved : ∀ w ∈ w_Si_proved, w ∈ g_tbl := fun w h => (List.mem_cons.mp h).elim (fun e => by rw [e]; exact k_Si_proved) id
set_option maxRecDepth 100000 in
theorem k_Si_clash : Cond.code y_Si_clash c_Si_clash 2 (some .int) ∈ g_tbl := tb_ 442 rfl rfl
set_option maxRecDepth 100000 in
theorem u_Si_clash : ∀ w ∈ w_Si_clash, w ∈ g_tbl := fun w h => (List.mem_cons.mp h).elim (fun e => by rw [e]; exact k_Si_clash) id
set_option maxRecDepth 100000 in
theorem k_Si_gain : Cond.code y_Si_gain c_Si_gain 4 (some .long) ∈ g_tbl := tb_ 450 rfl rfl
set_option maxRecDepth 100000 in
theorem u_Si_gain : ∀ w ∈ w_Si_gain, w ∈ g_tbl := fun w h => (List.mem_cons.mp h).elim (fun e => by rw [e]; exact k_Si_gain) id
set_option maxRecDepth 100000 in
theorem k_Si_improve : Cond.code y_Si_improve c_Si_improve 4 (some .int) ∈ g_tbl := tb_ 454 rfl rfl
set_option maxRecDepth 100000 in
theorem u_Si_improve : ∀ w ∈ w_Si_improve, w ∈ g_tbl := fun w h => (List.mem_cons.mp h).elim (fun e => by rw [e]; exact k_Si_improve) id
set_option maxRecDepth 100000 in
theorem k_Si_years : Cond.code y_Si_years c_Si_years 2 (some .int) ∈ g_tbl := tb_ 480 rfl rfl
set_option maxRecDepth 100000 in
theorem u_Si_years : ∀ w ∈ w_Si_years, w ∈ g_tbl := fun w h => (List.mem_cons.mp h).elim (fun e => by rw [e]; exact k_Si_years) id
set_option maxRecDepth 100000 in
theorem k_Si_open : Cond.code y_Si_open c_Si_open 3 (some .int) ∈ g_tbl := tb_ 513 rfl rfl
set_option maxRecDepth 100000 in
theorem u_Si_open : ∀ w ∈ w_Si_open, w ∈ g_tbl := fun w h => (List.mem_cons.mp h).elim (fun e => by rw [e]; exact k_Si_open) id
set_option maxRecDepth 100000 in
theorem k_Si_isWithin : Cond.code y_Si_isWithin c_Si_isWithin 6 (some .boolean) ∈ g_tbl := tb_ 220 rfl rfl
set_option maxRecDepth 100000 in
theorem u_Si_isWithin : ∀ w ∈ w_Si_isWithin, w ∈ g_tbl := fun w h => (List.mem_cons.mp h).elim (fun e => by rw [e]; exact k_Si_isWithin) id
set_option maxRecDepth 100000 in
theorem k_Mo_init : Cond.code y_Mo_init c_Mo_init 2 none ∈ g_tbl := tb_ 522 rfl rfl
set_option maxRecDepth 100000 in
theorem u_Mo_init : ∀ w ∈ w_Mo_init, w ∈ g_tbl := fun w h => (List.mem_cons.mp h).elim (fun e => by rw [e]; exact k_Mo_init) id
set_option maxRecDepth 100000 in
theorem k_Mo_isDistrict : Cond.code y_Mo_isDistrict c_Mo_isDistrict 2 (some .boolean) ∈ g_tbl := tb_ 625 rfl rfl
set_option maxRecDepth 100000 in
theorem u_Mo_isDistrict : ∀ w ∈ w_Mo_isDistrict, w ∈ g_tbl := fun w h => (List.mem_cons.mp h).elim (fun e => by rw [e]; exact k_Mo_isDistrict) id
set_option maxRecDepth 100000 in
theorem k_Mo_isPlace : Cond.code y_Mo_isPlace c_Mo_isPlace 2 (some .boolean) ∈ g_tbl := tb_ 629 rfl rfl
set_option maxRecDepth 100000 in
theorem u_Mo_isPlace : ∀ w ∈ w_Mo_isPlace, w ∈ g_tbl := fun w h => (List.mem_cons.mp h).elim (fun e => by rw [e]; exact k_Mo_isPlace) id
set_option maxRecDepth 100000 in
theorem k_Mo_isIn : Cond.code y_Mo_isIn c_Mo_isIn 6 (some .boolean) ∈ g_tbl := tb_ 610 rfl rfl
set_option maxRecDepth 100000 in
theorem u_Mo_isIn : ∀ w ∈ w_Mo_isIn, w ∈ g_tbl := fun w h => (List.mem_cons.mp h).elim (fun e => by rw [e]; exact k_Mo_isIn) id
set_option maxRecDepth 100000 in
theorem k_Mo_district : Cond.code y_Mo_district c_Mo_district 3 (some .int) ∈ g_tbl := tb_ 606 rfl rfl
set_option maxRecDepth 100000 in
theorem u_Mo_district : ∀ w ∈ w_Mo_district, w ∈ g_tbl := fun w h => (List.mem_cons.mp h).elim (fun e => by rw [e]; exact k_Mo_district) id
set_option maxRecDepth 100000 in
theorem k_Mo_place : Cond.code y_Mo_place c_Mo_place 9 (some .int) ∈ g_tbl := tb_ 614 rfl rfl
set_option maxRecDepth 100000 in
theorem u_Mo_place : ∀ w ∈ w_Mo_place, w ∈ g_tbl := fun w h => (List.mem_cons.mp h).elim (fun e => by rw [e]; exact k_Mo_place) id
set_option maxRecDepth 100000 in
theorem k_Mo_walk : Cond.code y_Mo_walk c_Mo_walk 5 (some .boolean) ∈ g_tbl := tb_ 621 rfl rfl
set_option maxRecDepth 100000 in
theorem u_Mo_walk : ∀ w ∈ w_Mo_walk, w ∈ g_tbl := fun w h => (List.mem_cons.mp h).elim (fun e => by rw [e]; exact k_Mo_walk) id
set_option maxRecDepth 100000 in
theorem k_Mo_bar : Cond.code y_Mo_bar c_Mo_bar 2 (some .boolean) ∈ g_tbl := tb_ 633 rfl rfl
set_option maxRecDepth 100000 in
theorem u_Mo_bar : ∀ w ∈ w_Mo_bar, w ∈ g_tbl := fun w h => (List.mem_cons.mp h).elim (fun e => by rw [e]; exact k_Mo_bar) id
set_option maxRecDepth 100000 in
theorem k_Mo_noise : Cond.code y_Mo_noise c_Mo_noise 4 (some .boolean) ∈ g_tbl := tb_ 637 rfl rfl
set_option maxRecDepth 100000 in
theorem u_Mo_noise : ∀ w ∈ w_Mo_noise, w ∈ g_tbl := fun w h => (List.mem_cons.mp h).elim (fun e => by rw [e]; exact k_Mo_noise) id
set_option maxRecDepth 100000 in
theorem k_Mo_budget : Cond.code y_Mo_budget c_Mo_budget 3 (some .boolean) ∈ g_tbl := tb_ 642 rfl rfl
set_option maxRecDepth 100000 in
theorem u_Mo_budget : ∀ w ∈ w_Mo_budget, w ∈ g_tbl := fun w h => (List.mem_cons.mp h).elim (fun e => by rw [e]; exact k_Mo_budget) id
set_option maxRecDepth 100000 in
theorem k_Mo_fair : Cond.code y_Mo_fair c_Mo_fair 4 (some .boolean) ∈ g_tbl := tb_ 646 rfl rfl
set_option maxRecDepth 100000 in
theorem u_Mo_fair : ∀ w ∈ w_Mo_fair, w ∈ g_tbl := fun w h => (List.mem_cons.mp h).elim (fun e => by rw [e]; exact k_Mo_fair) id
set_option maxRecDepth 100000 in
theorem k_Mo_has : Cond.code y_Mo_has c_Mo_has 2 (some .boolean) ∈ g_tbl := tb_ 670 rfl rfl
set_option maxRecDepth 100000 in
theorem u_Mo_has : ∀ w ∈ w_Mo_has, w ∈ g_tbl := fun w h => (List.mem_cons.mp h).elim (fun e => by rw [e]; exact k_Mo_has) id
set_option maxRecDepth 100000 in
theorem k_Mo_canGo : Cond.code y_Mo_canGo c_Mo_canGo 5 (some .boolean) ∈ g_tbl := tb_ 654 rfl rfl
set_option maxRecDepth 100000 in
theorem u_Mo_canGo : ∀ w ∈ w_Mo_canGo, w ∈ g_tbl := fun w h => (List.mem_cons.mp h).elim (fun e => by rw [e]; exact k_Mo_canGo) id
set_option maxRecDepth 100000 in
theorem k_Mo_mayBeOpen : Cond.code y_Mo_mayBeOpen c_Mo_mayBeOpen 11 (some .boolean) ∈ g_tbl := tb_ 695 rfl rfl
set_option maxRecDepth 100000 in
theorem u_Mo_mayBeOpen : ∀ w ∈ w_Mo_mayBeOpen, w ∈ g_tbl := fun w h => (List.mem_cons.mp h).elim (fun e => by rw [e]; exact k_Mo_mayBeOpen) id
set_option maxRecDepth 100000 in
theorem k_Mo_askFor : Cond.code y_Mo_askFor c_Mo_askFor 5 none ∈ g_tbl := tb_ 667 rfl rfl
set_option maxRecDepth 100000 in
theorem u_Mo_askFor : ∀ w ∈ w_Mo_askFor, w ∈ g_tbl := fun w h => (List.mem_cons.mp h).elim (fun e => by rw [e]; exact k_Mo_askFor) id
set_option maxRecDepth 100000 in
theorem k_Mo_placesOf : Cond.code y_Mo_placesOf c_Mo_placesOf 4 (some .int) ∈ g_tbl := tb_ 691 rfl rfl
set_option maxRecDepth 100000 in
theorem u_Mo_placesOf : ∀ w ∈ w_Mo_placesOf, w ∈ g_tbl := fun w h => (List.mem_cons.mp h).elim (fun e => by rw [e]; exact k_Mo_placesOf) id
set_option maxRecDepth 100000 in
theorem k_Mo_fits : Cond.code y_Mo_fits c_Mo_fits 7 (some .boolean) ∈ g_tbl := tb_ 687 rfl rfl
set_option maxRecDepth 100000 in
theorem u_Mo_fits : ∀ w ∈ w_Mo_fits, w ∈ g_tbl := fun w h => (List.mem_cons.mp h).elim (fun e => by rw [e]; exact k_Mo_fits) id
set_option maxRecDepth 100000 in
theorem k_Mo_isPlan : Cond.code y_Mo_isPlan c_Mo_isPlan 4 (some .boolean) ∈ g_tbl := tb_ 683 rfl rfl
set_option maxRecDepth 100000 in
theorem u_Mo_isPlan : ∀ w ∈ w_Mo_isPlan, w ∈ g_tbl := fun w h => (List.mem_cons.mp h).elim (fun e => by rw [e]; exact k_Mo_isPlan) id
set_option maxRecDepth 100000 in
theorem k_Mo_sumOf : Cond.code y_Mo_sumOf c_Mo_sumOf 5 (some .long) ∈ g_tbl := tb_ 699 rfl rfl
set_option maxRecDepth 100000 in
theorem u_Mo_sumOf : ∀ w ∈ w_Mo_sumOf, w ∈ g_tbl := fun w h => (List.mem_cons.mp h).elim (fun e => by rw [e]; exact k_Mo_sumOf) id
set_option maxRecDepth 100000 in
theorem k_Mo_next : Cond.code y_Mo_next c_Mo_next 2 (some .boolean) ∈ g_tbl := tb_ 703 rfl rfl
set_option maxRecDepth 100000 in
theorem u_Mo_next : ∀ w ∈ w_Mo_next, w ∈ g_tbl := fun w h => (List.mem_cons.mp h).elim (fun e => by rw [e]; exact k_Mo_next) id
set_option maxRecDepth 100000 in
theorem k_Mo_search : Cond.code y_Mo_search c_Mo_search 9 (some .long) ∈ g_tbl := tb_ 675 rfl rfl
set_option maxRecDepth 100000 in
theorem u_Mo_search : ∀ w ∈ w_Mo_search, w ∈ g_tbl := fun w h => (List.mem_cons.mp h).elim (fun e => by rw [e]; exact k_Mo_search) id
set_option maxRecDepth 100000 in
theorem k_Mo_count : Cond.code y_Mo_count c_Mo_count 3 (some .int) ∈ g_tbl := tb_ 679 rfl rfl
set_option maxRecDepth 100000 in
theorem u_Mo_count : ∀ w ∈ w_Mo_count, w ∈ g_tbl := fun w h => (List.mem_cons.mp h).elim (fun e => by rw [e]; exact k_Mo_count) id
set_option maxRecDepth 100000 in
theorem k_Mo_all : Cond.code y_Mo_all c_Mo_all 1 (some .int) ∈ g_tbl := tb_ 663 rfl rfl
set_option maxRecDepth 100000 in
theorem u_Mo_all : ∀ w ∈ w_Mo_all, w ∈ g_tbl := fun w h => (List.mem_cons.mp h).elim (fun e => by rw [e]; exact k_Mo_all) id
set_option maxRecDepth 100000 in
theorem k_Mo_ways : Cond.code y_Mo_ways c_Mo_ways 7 (some .long) ∈ g_tbl := tb_ 650 rfl rfl
set_option maxRecDepth 100000 in
theorem u_Mo_ways : ∀ w ∈ w_Mo_ways, w ∈ g_tbl := fun w h => (List.mem_cons.mp h).elim (fun e => by rw [e]; exact k_Mo_ways) id
set_option maxRecDepth 100000 in
theorem k_Mo_size : Cond.code y_Mo_size c_Mo_size 3 (some .int) ∈ g_tbl := tb_ 710 rfl rfl
set_option maxRecDepth 100000 in
theorem u_Mo_size : ∀ w ∈ w_Mo_size, w ∈ g_tbl := fun w h => (List.mem_cons.mp h).elim (fun e => by rw [e]; exact k_Mo_size) id
set_option maxRecDepth 100000 in
theorem k_Mo_isBefore : Cond.code y_Mo_isBefore c_Mo_isBefore 3 (some .boolean) ∈ g_tbl := tb_ 713 rfl rfl
set_option maxRecDepth 100000 in
theorem u_Mo_isBefore : ∀ w ∈ w_Mo_isBefore, w ∈ g_tbl := fun w h => (List.mem_cons.mp h).elim (fun e => by rw [e]; exact k_Mo_isBefore) id
set_option maxRecDepth 100000 in
theorem k_Mo_findClash : Cond.code y_Mo_findClash c_Mo_findClash 3 none ∈ g_tbl := tb_ 707 rfl rfl
set_option maxRecDepth 100000 in
theorem u_Mo_findClash : ∀ w ∈ w_Mo_findClash, w ∈ g_tbl := fun w h => (List.mem_cons.mp h).elim (fun e => by rw [e]; exact k_Mo_findClash) id
set_option maxRecDepth 100000 in
theorem k_Mo_run : Cond.code y_Mo_run c_Mo_run 6 (some .int) ∈ g_tbl := tb_ 658 rfl rfl
set_option maxRecDepth 100000 in
theorem u_Mo_run : ∀ w ∈ w_Mo_run, w ∈ g_tbl := fun w h => (List.mem_cons.mp h).elim (fun e => by rw [e]; exact k_Mo_run) id
set_option maxRecDepth 100000 in
theorem k_Mo_chosen : Cond.code y_Mo_chosen c_Mo_chosen 4 (some .boolean) ∈ g_tbl := tb_ 717 rfl rfl
set_option maxRecDepth 100000 in
theorem u_Mo_chosen : ∀ w ∈ w_Mo_chosen, w ∈ g_tbl := fun w h => (List.mem_cons.mp h).elim (fun e => by rw [e]; exact k_Mo_chosen) id
set_option maxRecDepth 100000 in
theorem k_Mo_of : Cond.code y_Mo_of c_Mo_of 2 (some .int) ∈ g_tbl := tb_ 721 rfl rfl
set_option maxRecDepth 100000 in
theorem u_Mo_of : ∀ w ∈ w_Mo_of, w ∈ g_tbl := fun w h => (List.mem_cons.mp h).elim (fun e => by rw [e]; exact k_Mo_of) id
set_option maxRecDepth 100000 in
theorem k_Mo_sum : Cond.code y_Mo_sum c_Mo_sum 1 (some .long) ∈ g_tbl := tb_ 725 rfl rfl
set_option maxRecDepth 100000 in
theorem u_Mo_sum : ∀ w ∈ w_Mo_sum, w ∈ g_tbl := fun w h => (List.mem_cons.mp h).elim (fun e => by rw [e]; exact k_Mo_sum) id
set_option maxRecDepth 100000 in
theorem k_Mo_bound : Cond.code y_Mo_bound c_Mo_bound 9 (some .long) ∈ g_tbl := tb_ 729 rfl rfl
set_option maxRecDepth 100000 in
theorem u_Mo_bound : ∀ w ∈ w_Mo_bound, w ∈ g_tbl := fun w h => (List.mem_cons.mp h).elim (fun e => by rw [e]; exact k_Mo_bound) id
set_option maxRecDepth 100000 in
theorem k_Mo_proved : Cond.code y_Mo_proved c_Mo_proved 1 (some .boolean) ∈ g_tbl := tb_ 733 rfl rfl
set_option maxRecDepth 100000 in
theorem u_Mo_proved : ∀ w ∈ w_Mo_proved, w ∈ g_tbl := fun w h => (List.mem_cons.mp h).elim (fun e => by rw [e]; exact k_Mo_proved) id
set_option maxRecDepth 100000 in
theorem k_Mo_clash : Cond.code y_Mo_clash c_Mo_clash 4 (some .int) ∈ g_tbl := tb_ 737 rfl rfl
set_option maxRecDepth 100000 in
theorem u_Mo_clash : ∀ w ∈ w_Mo_clash, w ∈ g_tbl := fun w h => (List.mem_cons.mp h).elim (fun e => by rw [e]; exact k_Mo_clash) id
set_option maxRecDepth 100000 in
theorem k_Mo_gain : Cond.code y_Mo_gain c_Mo_gain 4 (some .long) ∈ g_tbl := tb_ 741 rfl rfl
set_option maxRecDepth 100000 in
theorem u_Mo_gain : ∀ w ∈ w_Mo_gain, w ∈ g_tbl := fun w h => (List.mem_cons.mp h).elim (fun e => by rw [e]; exact k_Mo_gain) id
set_option maxRecDepth 100000 in
theorem k_Mo_exchange : Cond.code y_Mo_exchange c_Mo_exchange 6 (some .boolean) ∈ g_tbl := tb_ 749 rfl rfl
set_option maxRecDepth 100000 in
theorem u_Mo_exchange : ∀ w ∈ w_Mo_exchange, w ∈ g_tbl := fun w h => (List.mem_cons.mp h).elim (fun e => by rw [e]; exact k_Mo_exchange) id
set_option maxRecDepth 100000 in
theorem k_Mo_improve : Cond.code y_Mo_improve c_Mo_improve 3 (some .int) ∈ g_tbl := tb_ 745 rfl rfl
set_option maxRecDepth 100000 in
theorem u_Mo_improve : ∀ w ∈ w_Mo_improve, w ∈ g_tbl := fun w h => (List.mem_cons.mp h).elim (fun e => by rw [e]; exact k_Mo_improve) id
set_option maxRecDepth 100000 in
theorem k_Mo_reckon : Cond.code y_Mo_reckon c_Mo_reckon 8 none ∈ g_tbl := tb_ 757 rfl rfl
set_option maxRecDepth 100000 in
theorem u_Mo_reckon : ∀ w ∈ w_Mo_reckon, w ∈ g_tbl := fun w h => (List.mem_cons.mp h).elim (fun e => by rw [e]; exact k_Mo_reckon) id
set_option maxRecDepth 100000 in
theorem k_Mo_yearCost : Cond.code y_Mo_yearCost c_Mo_yearCost 7 (some .long) ∈ g_tbl := tb_ 762 rfl rfl
set_option maxRecDepth 100000 in
theorem u_Mo_yearCost : ∀ w ∈ w_Mo_yearCost, w ∈ g_tbl := fun w h => (List.mem_cons.mp h).elim (fun e => by rw [e]; exact k_Mo_yearCost) id
set_option maxRecDepth 100000 in
theorem k_Mo_years : Cond.code y_Mo_years c_Mo_years 9 (some .int) ∈ g_tbl := tb_ 753 rfl rfl
set_option maxRecDepth 100000 in
theorem u_Mo_years : ∀ w ∈ w_Mo_years, w ∈ g_tbl := fun w h => (List.mem_cons.mp h).elim (fun e => by rw [e]; exact k_Mo_years) id
set_option maxRecDepth 100000 in
theorem k_Mo_open : Cond.code y_Mo_open c_Mo_open 3 (some .int) ∈ g_tbl := tb_ 766 rfl rfl
set_option maxRecDepth 100000 in
theorem u_Mo_open : ∀ w ∈ w_Mo_open, w ∈ g_tbl := fun w h => (List.mem_cons.mp h).elim (fun e => by rw [e]; exact k_Mo_open) id
set_option maxRecDepth 100000 in
theorem k_Ca_init : Cond.code y_Ca_init c_Ca_init 1 none ∈ g_tbl := tb_ 178 rfl rfl
set_option maxRecDepth 100000 in
theorem u_Ca_init : ∀ w ∈ w_Ca_init, w ∈ g_tbl := fun w h => (List.mem_cons.mp h).elim (fun e => by rw [e]; exact k_Ca_init) id
set_option maxRecDepth 100000 in
theorem k_Ca_isOpenIn : Cond.code y_Ca_isOpenIn c_Ca_isOpenIn 3 (some .int) ∈ g_tbl := tb_ 517 rfl rfl
set_option maxRecDepth 100000 in
theorem u_Ca_isOpenIn : ∀ w ∈ w_Ca_isOpenIn, w ∈ g_tbl := fun w h => (List.mem_cons.mp h).elim (fun e => by rw [e]; exact k_Ca_isOpenIn) id
set_option maxRecDepth 100000 in
theorem k_Ca_lookOver : Cond.code y_Ca_lookOver c_Ca_lookOver 6 (some .long) ∈ g_tbl := tb_ 485 rfl rfl
set_option maxRecDepth 100000 in
theorem u_Ca_lookOver : ∀ w ∈ w_Ca_lookOver, w ∈ g_tbl := fun w h => (List.mem_cons.mp h).elim (fun e => by rw [e]; exact k_Ca_lookOver) id
set_option maxRecDepth 100000 in
theorem k_Ca_reckonSums : Cond.code y_Ca_reckonSums c_Ca_reckonSums 7 none ∈ g_tbl := tb_ 490 rfl rfl
set_option maxRecDepth 100000 in
theorem u_Ca_reckonSums : ∀ w ∈ w_Ca_reckonSums, w ∈ g_tbl := fun w h => (List.mem_cons.mp h).elim (fun e => by rw [e]; exact k_Ca_reckonSums) id
set_option maxRecDepth 100000 in
theorem k_Ca_reckonOnward : Cond.code y_Ca_reckonOnward c_Ca_reckonOnward 6 none ∈ g_tbl := tb_ 497 rfl rfl
set_option maxRecDepth 100000 in
theorem u_Ca_reckonOnward : ∀ w ∈ w_Ca_reckonOnward, w ∈ g_tbl := fun w h => (List.mem_cons.mp h).elim (fun e => by rw [e]; exact k_Ca_reckonOnward) id
set_option maxRecDepth 100000 in
theorem k_Ca_withNext : Cond.code y_Ca_withNext c_Ca_withNext 6 (some .long) ∈ g_tbl := tb_ 501 rfl rfl
set_option maxRecDepth 100000 in
theorem u_Ca_withNext : ∀ w ∈ w_Ca_withNext, w ∈ g_tbl := fun w h => (List.mem_cons.mp h).elim (fun e => by rw [e]; exact k_Ca_withNext) id
set_option maxRecDepth 100000 in
theorem k_Ca_cheapestNext : Cond.code y_Ca_cheapestNext c_Ca_cheapestNext 11 (some .int) ∈ g_tbl := tb_ 505 rfl rfl
set_option maxRecDepth 100000 in
theorem u_Ca_cheapestNext : ∀ w ∈ w_Ca_cheapestNext, w ∈ g_tbl := fun w h => (List.mem_cons.mp h).elim (fun e => by rw [e]; exact k_Ca_cheapestNext) id
set_option maxRecDepth 100000 in
theorem k_Ca_hold : Cond.code y_Ca_hold c_Ca_hold 7 none ∈ g_tbl := tb_ 509 rfl rfl
set_option maxRecDepth 100000 in
theorem u_Ca_hold : ∀ w ∈ w_Ca_hold, w ∈ g_tbl := fun w h => (List.mem_cons.mp h).elim (fun e => by rw [e]; exact k_Ca_hold) id
set_option maxRecDepth 100000 in
theorem k_He_init : Cond.code y_He_init c_He_init 1 none ∈ g_tbl := tb_ 147 rfl rfl
set_option maxRecDepth 100000 in
theorem u_He_init : ∀ w ∈ w_He_init, w ∈ g_tbl := fun w h => (List.mem_cons.mp h).elim (fun e => by rw [e]; exact k_He_init) id
set_option maxRecDepth 100000 in
theorem k_He_drop : Cond.code y_He_drop c_He_drop 1 none ∈ g_tbl := tb_ 297 rfl rfl
set_option maxRecDepth 100000 in
theorem u_He_drop : ∀ w ∈ w_He_drop, w ∈ g_tbl := fun w h => (List.mem_cons.mp h).elim (fun e => by rw [e]; exact k_He_drop) id
set_option maxRecDepth 100000 in
theorem k_He_keep : Cond.code y_He_keep c_He_keep 4 none ∈ g_tbl := tb_ 404 rfl rfl
set_option maxRecDepth 100000 in
theorem u_He_keep : ∀ w ∈ w_He_keep, w ∈ g_tbl := fun w h => (List.mem_cons.mp h).elim (fun e => by rw [e]; exact k_He_keep) id
set_option maxRecDepth 100000 in
theorem k_He_placeFor : Cond.code y_He_placeFor c_He_placeFor 2 (some .int) ∈ g_tbl := tb_ 417 rfl rfl
set_option maxRecDepth 100000 in
theorem u_He_placeFor : ∀ w ∈ w_He_placeFor, w ∈ g_tbl := fun w h => (List.mem_cons.mp h).elim (fun e => by rw [e]; exact k_He_placeFor) id
set_option maxRecDepth 100000 in
theorem k_He_gives : Cond.code y_He_gives c_He_gives 3 (some .boolean) ∈ g_tbl := tb_ 413 rfl rfl
set_option maxRecDepth 100000 in
theorem u_He_gives : ∀ w ∈ w_He_gives, w ∈ g_tbl := fun w h => (List.mem_cons.mp h).elim (fun e => by rw [e]; exact k_He_gives) id
set_option maxRecDepth 100000 in
theorem k_He_reckonTotal : Cond.code y_He_reckonTotal c_He_reckonTotal 4 none ∈ g_tbl := tb_ 476 rfl rfl
set_option maxRecDepth 100000 in
theorem u_He_reckonTotal : ∀ w ∈ w_He_reckonTotal, w ∈ g_tbl := fun w h => (List.mem_cons.mp h).elim (fun e => by rw [e]; exact k_He_reckonTotal) id
set_option maxRecDepth 100000 in
theorem k_He_exchangeFirst : Cond.code y_He_exchangeFirst c_He_exchangeFirst 5 (some .boolean) ∈ g_tbl := tb_ 461 rfl rfl
set_option maxRecDepth 100000 in
theorem u_He_exchangeFirst : ∀ w ∈ w_He_exchangeFirst, w ∈ g_tbl := fun w h => (List.mem_cons.mp h).elim (fun e => by rw [e]; exact k_He_exchangeFirst) id
set_option maxRecDepth 100000 in
theorem k_He_exchange : Cond.code y_He_exchange c_He_exchange 8 (some .boolean) ∈ g_tbl := tb_ 465 rfl rfl
set_option maxRecDepth 100000 in
theorem u_He_exchange : ∀ w ∈ w_He_exchange, w ∈ g_tbl := fun w h => (List.mem_cons.mp h).elim (fun e => by rw [e]; exact k_He_exchange) id
set_option maxRecDepth 100000 in
theorem k_Se_init : Cond.code y_Se_init c_Se_init 1 none ∈ g_tbl := tb_ 92 rfl rfl
set_option maxRecDepth 100000 in
theorem u_Se_init : ∀ w ∈ w_Se_init, w ∈ g_tbl := fun w h => (List.mem_cons.mp h).elim (fun e => by rw [e]; exact k_Se_init) id
set_option maxRecDepth 100000 in
theorem k_Se_load : Cond.code y_Se_load c_Se_load 5 none ∈ g_tbl := tb_ 305 rfl rfl
set_option maxRecDepth 100000 in
theorem u_Se_load : ∀ w ∈ w_Se_load, w ∈ g_tbl := fun w h => (List.mem_cons.mp h).elim (fun e => by rw [e]; exact k_Se_load) id
set_option maxRecDepth 100000 in
theorem k_Se_loadNeedsOfYear : Cond.code y_Se_loadNeedsOfYear c_Se_loadNeedsOfYear 4 none ∈ g_tbl := tb_ 309 rfl rfl
set_option maxRecDepth 100000 in
theorem u_Se_loadNeedsOfYear : ∀ w ∈ w_Se_loadNeedsOfYear, w ∈ g_tbl := fun w h => (List.mem_cons.mp h).elim (fun e => by rw [e]; exact k_Se_loadNeedsOfYear) id
set_option maxRecDepth 100000 in
theorem k_Se_loadNeedsOfSet : Cond.code y_Se_loadNeedsOfSet c_Se_loadNeedsOfSet 4 none ∈ g_tbl := tb_ 387 rfl rfl
set_option maxRecDepth 100000 in
theorem u_Se_loadNeedsOfSet : ∀ w ∈ w_Se_loadNeedsOfSet, w ∈ g_tbl := fun w h => (List.mem_cons.mp h).elim (fun e => by rw [e]; exact k_Se_loadNeedsOfSet) id
set_option maxRecDepth 100000 in
theorem k_Se_loadSets : Cond.code y_Se_loadSets c_Se_loadSets 9 none ∈ g_tbl := tb_ 316 rfl rfl
set_option maxRecDepth 100000 in
theorem u_Se_loadSets : ∀ w ∈ w_Se_loadSets, w ∈ g_tbl := fun w h => (List.mem_cons.mp h).elim (fun e => by rw [e]; exact k_Se_loadSets) id
set_option maxRecDepth 100000 in
theorem k_Se_isAnyTooNear : Cond.code y_Se_isAnyTooNear c_Se_isAnyTooNear 4 (some .boolean) ∈ g_tbl := tb_ 319 rfl rfl
set_option maxRecDepth 100000 in
theorem u_Se_isAnyTooNear : ∀ w ∈ w_Se_isAnyTooNear, w ∈ g_tbl := fun w h => (List.mem_cons.mp h).elim (fun e => by rw [e]; exact k_Se_isAnyTooNear) id
set_option maxRecDepth 100000 in
theorem k_Se_leastSum : Cond.code y_Se_leastSum c_Se_leastSum 2 (some .long) ∈ g_tbl := tb_ 330 rfl rfl
set_option maxRecDepth 100000 in
theorem u_Se_leastSum : ∀ w ∈ w_Se_leastSum, w ∈ g_tbl := fun w h => (List.mem_cons.mp h).elim (fun e => by rw [e]; exact k_Se_leastSum) id
set_option maxRecDepth 100000 in
theorem k_Se_hasPlan : Cond.code y_Se_hasPlan c_Se_hasPlan 3 (some .boolean) ∈ g_tbl := tb_ 394 rfl rfl
set_option maxRecDepth 100000 in
theorem u_Se_hasPlan : ∀ w ∈ w_Se_hasPlan, w ∈ g_tbl := fun w h => (List.mem_cons.mp h).elim (fun e => by rw [e]; exact k_Se_hasPlan) id
set_option maxRecDepth 100000 in
theorem k_Se_leastThinkable : Cond.code y_Se_leastThinkable c_Se_leastThinkable 1 (some .long) ∈ g_tbl := tb_ 434 rfl rfl
set_option maxRecDepth 100000 in
theorem u_Se_leastThinkable : ∀ w ∈ w_Se_leastThinkable, w ∈ g_tbl := fun w h => (List.mem_cons.mp h).elim (fun e => by rw [e]; exact k_Se_leastThinkable) id
set_option maxRecDepth 100000 in
theorem k_Se_reckonLeastRest : Cond.code y_Se_reckonLeastRest c_Se_reckonLeastRest 4 (some .boolean) ∈ g_tbl := tb_ 334 rfl rfl
set_option maxRecDepth 100000 in
theorem u_Se_reckonLeastRest : ∀ w ∈ w_Se_reckonLeastRest, w ∈ g_tbl := fun w h => (List.mem_cons.mp h).elim (fun e => by rw [e]; exact k_Se_reckonLeastRest) id
set_option maxRecDepth 100000 in
theorem k_Se_nearestUsable : Cond.code y_Se_nearestUsable c_Se_nearestUsable 7 (some .long) ∈ g_tbl := tb_ 338 rfl rfl
set_option maxRecDepth 100000 in
theorem u_Se_nearestUsable : ∀ w ∈ w_Se_nearestUsable, w ∈ g_tbl := fun w h => (List.mem_cons.mp h).elim (fun e => by rw [e]; exact k_Se_nearestUsable) id
set_option maxRecDepth 100000 in
theorem k_Se_isUsable : Cond.code y_Se_isUsable c_Se_isUsable 2 (some .boolean) ∈ g_tbl := tb_ 342 rfl rfl
set_option maxRecDepth 100000 in
theorem u_Se_isUsable : ∀ w ∈ w_Se_isUsable, w ∈ g_tbl := fun w h => (List.mem_cons.mp h).elim (fun e => by rw [e]; exact k_Se_isUsable) id
set_option maxRecDepth 100000 in
theorem k_Se_give : Cond.code y_Se_give c_Se_give 6 none ∈ g_tbl := tb_ 352 rfl rfl
set_option maxRecDepth 100000 in
theorem u_Se_give : ∀ w ∈ w_Se_give, w ∈ g_tbl := fun w h => (List.mem_cons.mp h).elim (fun e => by rw [e]; exact k_Se_give) id
set_option maxRecDepth 100000 in
theorem k_Se_giveEachPlace : Cond.code y_Se_giveEachPlace c_Se_giveEachPlace 7 none ∈ g_tbl := tb_ 368 rfl rfl
set_option maxRecDepth 100000 in
theorem u_Se_giveEachPlace : ∀ w ∈ w_Se_giveEachPlace, w ∈ g_tbl := fun w h => (List.mem_cons.mp h).elim (fun e => by rw [e]; exact k_Se_giveEachPlace) id
set_option maxRecDepth 100000 in
theorem k_Se_nextWithNeed : Cond.code y_Se_nextWithNeed c_Se_nextWithNeed 3 (some .int) ∈ g_tbl := tb_ 356 rfl rfl
set_option maxRecDepth 100000 in
theorem u_Se_nextWithNeed : ∀ w ∈ w_Se_nextWithNeed, w ∈ g_tbl := fun w h => (List.mem_cons.mp h).elim (fun e => by rw [e]; exact k_Se_nextWithNeed) id
set_option maxRecDepth 100000 in
theorem k_Se_isHopeless : Cond.code y_Se_isHopeless c_Se_isHopeless 3 (some .boolean) ∈ g_tbl := tb_ 364 rfl rfl
set_option maxRecDepth 100000 in
theorem u_Se_isHopeless : ∀ w ∈ w_Se_isHopeless, w ∈ g_tbl := fun w h => (List.mem_cons.mp h).elim (fun e => by rw [e]; exact k_Se_isHopeless) id
set_option maxRecDepth 100000 in
theorem k_Se_canTake : Cond.code y_Se_canTake c_Se_canTake 3 (some .boolean) ∈ g_tbl := tb_ 372 rfl rfl
set_option maxRecDepth 100000 in
theorem u_Se_canTake : ∀ w ∈ w_Se_canTake, w ∈ g_tbl := fun w h => (List.mem_cons.mp h).elim (fun e => by rw [e]; exact k_Se_canTake) id
set_option maxRecDepth 100000 in
theorem k_Se_keepIfBetter : Cond.code y_Se_keepIfBetter c_Se_keepIfBetter 3 none ∈ g_tbl := tb_ 360 rfl rfl
set_option maxRecDepth 100000 in
theorem u_Se_keepIfBetter : ∀ w ∈ w_Se_keepIfBetter, w ∈ g_tbl := fun w h => (List.mem_cons.mp h).elim (fun e => by rw [e]; exact k_Se_keepIfBetter) id
set_option maxRecDepth 100000 in
theorem k_Se_isPlan : Cond.code y_Se_isPlan c_Se_isPlan 5 (some .boolean) ∈ g_tbl := tb_ 472 rfl rfl
set_option maxRecDepth 100000 in
theorem u_Se_isPlan : ∀ w ∈ w_Se_isPlan, w ∈ g_tbl := fun w h => (List.mem_cons.mp h).elim (fun e => by rw [e]; exact k_Se_isPlan) id
set_option maxRecDepth 100000 in
theorem k_To_init : Cond.code y_To_init c_To_init 1 none ∈ g_tbl := tb_ 24 rfl rfl
set_option maxRecDepth 100000 in
theorem u_To_init : ∀ w ∈ w_To_init, w ∈ g_tbl := fun w h => (List.mem_cons.mp h).elim (fun e => by rw [e]; exact k_To_init) id
set_option maxRecDepth 100000 in
theorem k_To_hasDistrict : Cond.code y_To_hasDistrict c_To_hasDistrict 2 (some .boolean) ∈ g_tbl := tb_ 248 rfl rfl
set_option maxRecDepth 100000 in
theorem u_To_hasDistrict : ∀ w ∈ w_To_hasDistrict, w ∈ g_tbl := fun w h => (List.mem_cons.mp h).elim (fun e => by rw [e]; exact k_To_hasDistrict) id
set_option maxRecDepth 100000 in
theorem k_To_hasPlace : Cond.code y_To_hasPlace c_To_hasPlace 2 (some .boolean) ∈ g_tbl := tb_ 252 rfl rfl
set_option maxRecDepth 100000 in
theorem u_To_hasPlace : ∀ w ∈ w_To_hasPlace, w ∈ g_tbl := fun w h => (List.mem_cons.mp h).elim (fun e => by rw [e]; exact k_To_hasPlace) id
set_option maxRecDepth 100000 in
theorem k_To_addDistrict : Cond.code y_To_addDistrict c_To_addDistrict 4 (some .int) ∈ g_tbl := tb_ 224 rfl rfl
set_option maxRecDepth 100000 in
theorem u_To_addDistrict : ∀ w ∈ w_To_addDistrict, w ∈ g_tbl := fun w h => (List.mem_cons.mp h).elim (fun e => by rw [e]; exact k_To_addDistrict) id
set_option maxRecDepth 100000 in
theorem k_To_addPlace : Cond.code y_To_addPlace c_To_addPlace 10 (some .int) ∈ g_tbl := tb_ 240 rfl rfl
set_option maxRecDepth 100000 in
theorem u_To_addPlace : ∀ w ∈ w_To_addPlace, w ∈ g_tbl := fun w h => (List.mem_cons.mp h).elim (fun e => by rw [e]; exact k_To_addPlace) id
set_option maxRecDepth 100000 in
theorem k_To_reach : Cond.code y_To_reach c_To_reach 5 (some .long) ∈ g_tbl := tb_ 287 rfl rfl
set_option maxRecDepth 100000 in
theorem u_To_reach : ∀ w ∈ w_To_reach, w ∈ g_tbl := fun w h => (List.mem_cons.mp h).elim (fun e => by rw [e]; exact k_To_reach) id
set_option maxRecDepth 100000 in
theorem k_To_countWays : Cond.code y_To_countWays c_To_countWays 4 (some .long) ∈ g_tbl := tb_ 279 rfl rfl
set_option maxRecDepth 100000 in
theorem u_To_countWays : ∀ w ∈ w_To_countWays, w ∈ g_tbl := fun w h => (List.mem_cons.mp h).elim (fun e => by rw [e]; exact k_To_countWays) id
set_option maxRecDepth 100000 in
theorem k_To_countReached : Cond.code y_To_countReached c_To_countReached 5 (some .long) ∈ g_tbl := tb_ 283 rfl rfl
set_option maxRecDepth 100000 in
theorem u_To_countReached : ∀ w ∈ w_To_countReached, w ∈ g_tbl := fun w h => (List.mem_cons.mp h).elim (fun e => by rw [e]; exact k_To_countReached) id
set_option maxRecDepth 100000 in
theorem k_To_isTooNear : Cond.code y_To_isTooNear c_To_isTooNear 9 (some .boolean) ∈ g_tbl := tb_ 323 rfl rfl
set_option maxRecDepth 100000 in
theorem u_To_isTooNear : ∀ w ∈ w_To_isTooNear, w ∈ g_tbl := fun w h => (List.mem_cons.mp h).elim (fun e => by rw [e]; exact k_To_isTooNear) id
set_option maxRecDepth 100000 in
theorem k_Un_init : Cond.code y_Un_init c_Un_init 1 none ∈ g_tbl := tb_ 165 rfl rfl
set_option maxRecDepth 100000 in
theorem u_Un_init : ∀ w ∈ w_Un_init, w ∈ g_tbl := fun w h => (List.mem_cons.mp h).elim (fun e => by rw [e]; exact k_Un_init) id
set_option maxRecDepth 100000 in
theorem k_Un_isIn : Cond.code y_Un_isIn c_Un_isIn 3 (some .boolean) ∈ g_tbl := tb_ 390 rfl rfl
set_option maxRecDepth 100000 in
theorem u_Un_isIn : ∀ w ∈ w_Un_isIn, w ∈ g_tbl := fun w h => (List.mem_cons.mp h).elim (fun e => by rw [e]; exact k_Un_isIn) id
set_option maxRecDepth 100000 in
theorem k_Un_forget : Cond.code y_Un_forget c_Un_forget 1 none ∈ g_tbl := tb_ 301 rfl rfl
set_option maxRecDepth 100000 in
theorem u_Un_forget : ∀ w ∈ w_Un_forget, w ∈ g_tbl := fun w h => (List.mem_cons.mp h).elim (fun e => by rw [e]; exact k_Un_forget) id
set_option maxRecDepth 100000 in
theorem k_Un_member : Cond.code y_Un_member c_Un_member 2 (some .int) ∈ g_tbl := tb_ 446 rfl rfl
set_option maxRecDepth 100000 in
theorem u_Un_member : ∀ w ∈ w_Un_member, w ∈ g_tbl := fun w h => (List.mem_cons.mp h).elim (fun e => by rw [e]; exact k_Un_member) id
set_option maxRecDepth 100000 in
theorem k_Un_find : Cond.code y_Un_find c_Un_find 6 none ∈ g_tbl := tb_ 377 rfl rfl
set_option maxRecDepth 100000 in
theorem u_Un_find : ∀ w ∈ w_Un_find, w ∈ g_tbl := fun w h => (List.mem_cons.mp h).elim (fun e => by rw [e]; exact k_Un_find) id
set_option maxRecDepth 100000 in
theorem k_Un_list : Cond.code y_Un_list c_Un_list 4 none ∈ g_tbl := tb_ 399 rfl rfl
set_option maxRecDepth 100000 in
theorem u_Un_list : ∀ w ∈ w_Un_list, w ∈ g_tbl := fun w h => (List.mem_cons.mp h).elim (fun e => by rw [e]; exact k_Un_list) id
set_option maxRecDepth 100000 in
theorem k_Ob_init : Cond.code y_Ob_init c_Ob_init 1 none ∈ g_tbl := tb_ 19 rfl rfl
set_option maxRecDepth 100000 in
theorem u_Ob_init : ∀ w ∈ w_Ob_init, w ∈ g_tbl := fun w h => (List.mem_cons.mp h).elim (fun e => by rw [e]; exact k_Ob_init) id
set_option maxRecDepth 100000 in
theorem k_In_bitCount : Cond.code y_In_bitCount c_In_bitCount 1 (some .int) ∈ g_tbl := tb_ 380 rfl rfl
set_option maxRecDepth 100000 in
theorem u_In_bitCount : ∀ w ∈ w_In_bitCount, w ∈ g_tbl := fun w h => (List.mem_cons.mp h).elim (fun e => by rw [e]; exact k_In_bitCount) id
set_option maxRecDepth 100000 in
theorem k_Ma_max : Cond.code y_Ma_max c_Ma_max 4 (some .long) ∈ g_tbl := tb_ 326 rfl rfl
set_option maxRecDepth 100000 in
theorem u_Ma_max : ∀ w ∈ w_Ma_max, w ∈ g_tbl := fun w h => (List.mem_cons.mp h).elim (fun e => by rw [e]; exact k_Ma_max) id
set_option maxRecDepth 100000 in
theorem k_Ma_min : Cond.code y_Ma_min c_Ma_min 2 (some .int) ∈ g_tbl := tb_ 457 rfl rfl
set_option maxRecDepth 100000 in
theorem u_Ma_min : ∀ w ∈ w_Ma_min, w ∈ g_tbl := fun w h => (List.mem_cons.mp h).elim (fun e => by rw [e]; exact k_Ma_min) id
set_option maxRecDepth 100000 in
theorem k_Ar_fill_ints : Cond.code y_Ar_fill_ints c_Ar_fill_ints 4 none ∈ g_tbl := tb_ 348 rfl rfl
set_option maxRecDepth 100000 in
theorem u_Ar_fill_ints : ∀ w ∈ w_Ar_fill_ints, w ∈ g_tbl := fun w h => (List.mem_cons.mp h).elim (fun e => by rw [e]; exact k_Ar_fill_ints) id
set_option maxRecDepth 100000 in
theorem k_Ar_fill_longs : Cond.code y_Ar_fill_longs c_Ar_fill_longs 5 none ∈ g_tbl := tb_ 229 rfl rfl
set_option maxRecDepth 100000 in
theorem u_Ar_fill_longs : ∀ w ∈ w_Ar_fill_longs, w ∈ g_tbl := fun w h => (List.mem_cons.mp h).elim (fun e => by rw [e]; exact k_Ar_fill_longs) id
set_option maxRecDepth 100000 in
theorem cv_Si_11 (E : sx_E) {cc : ByteArray} (C : sx_C SC g_tbl "SiteChoice" cc E) (rm : Room) (hR : rm.frames + 1 ≤ (sx_R E).frames ∧ 8 + (1 + 11) + rm.locals ≤ (sx_R E).locals) : CallB (sx_R E) (sx_s E) (sx_a E) "SiteChoice" 11 y_To_init c_To_init 1 none w_To_init rm rm.cells rm.slots 0 ∧ y_To_init.name = "<init>" ∧ (Cond.instanceMethod y_To_init).before (sx_a E) (sx_s E) = true := cwI 0 C.2.2.2.2.1 (gi_ u_To_init) rfl rfl rfl (C.2.2.2.2.1 _ (tb_ 2 (by decide +kernel) rfl)) (C.2.2.2.2.1 _ (tb_ 22 (by decide +kernel) rfl)) (C.2.2.2.2.1 _ (tb_ 23 (by decide +kernel) rfl)) rfl (by decide +kernel) hR
set_option maxRecDepth 100000 in
theorem cv_Si_18 (E : sx_E) {cc : ByteArray} (C : sx_C SC g_tbl "SiteChoice" cc E) (rm : Room) (hR : rm.frames + 1 ≤ (sx_R E).frames ∧ 8 + (1 + 11) + rm.locals ≤ (sx_R E).locals) : CallB (sx_R E) (sx_s E) (sx_a E) "SiteChoice" 18 y_Se_init c_Se_init 1 none w_Se_init rm rm.cells rm.slots 0 ∧ y_Se_init.name = "<init>" ∧ (Cond.instanceMethod y_Se_init).before (sx_a E) (sx_s E) = true := cwI 0 C.2.2.2.2.1 (gi_ u_Se_init) rfl rfl rfl (C.2.2.2.2.1 _ (tb_ 3 (by decide +kernel) rfl)) (C.2.2.2.2.1 _ (tb_ 90 (by decide +kernel) rfl)) (C.2.2.2.2.1 _ (tb_ 91 (by decide +kernel) rfl)) rfl (by decide +kernel) hR
set_option maxRecDepth 100000 in
theorem cv_Si_25 (E : sx_E) {cc : ByteArray} (C : sx_C SC g_tbl "SiteChoice" cc E) (rm : Room) (hR : rm.frames + 1 ≤ (sx_R E).frames ∧ 8 + (1 + 11) + rm.locals ≤ (sx_R E).locals) : CallB (sx_R E) (sx_s E) (sx_a E) "SiteChoice" 25 y_He_init c_He_init 1 none w_He_init rm rm.cells rm.slots 0 ∧ y_He_init.name = "<init>" ∧ (Cond.instanceMethod y_He_init).before (sx_a E) (sx_s E) = true := cwI 0 C.2.2.2.2.1 (gi_ u_He_init) rfl rfl rfl (C.2.2.2.2.1 _ (tb_ 4 (by decide +kernel) rfl)) (C.2.2.2.2.1 _ (tb_ 145 (by decide +kernel) rfl)) (C.2.2.2.2.1 _ (tb_ 146 (by decide +kernel) rfl)) rfl (by decide +kernel) hR
set_option maxRecDepth 100000 in
theorem cv_Si_32 (E : sx_E) {cc : ByteArray} (C : sx_C SC g_tbl "SiteChoice" cc E) (rm : Room) (hR : rm.frames + 1 ≤ (sx_R E).frames ∧ 8 + (1 + 11) + rm.locals ≤ (sx_R E).locals) : CallB (sx_R E) (sx_s E) (sx_a E) "SiteChoice" 32 y_Un_init c_Un_init 1 none w_Un_init rm rm.cells rm.slots 0 ∧ y_Un_init.name = "<init>" ∧ (Cond.instanceMethod y_Un_init).before (sx_a E) (sx_s E) = true := cwI 0 C.2.2.2.2.1 (gi_ u_Un_init) rfl rfl rfl (C.2.2.2.2.1 _ (tb_ 5 (by decide +kernel) rfl)) (C.2.2.2.2.1 _ (tb_ 163 (by decide +kernel) rfl)) (C.2.2.2.2.1 _ (tb_ 164 (by decide +kernel) rfl)) rfl (by decide +kernel) hR
set_option maxRecDepth 100000 in
theorem cv_Si_39 (E : sx_E) {cc : ByteArray} (C : sx_C SC g_tbl "SiteChoice" cc E) (rm : Room) (hR : rm.frames + 1 ≤ (sx_R E).frames ∧ 8 + (1 + 11) + rm.locals ≤ (sx_R E).locals) : CallB (sx_R E) (sx_s E) (sx_a E) "SiteChoice" 39 y_Ca_init c_Ca_init 1 none w_Ca_init rm rm.cells rm.slots 0 ∧ y_Ca_init.name = "<init>" ∧ (Cond.instanceMethod y_Ca_init).before (sx_a E) (sx_s E) = true := cwI 0 C.2.2.2.2.1 (gi_ u_Ca_init) rfl rfl rfl (C.2.2.2.2.1 _ (tb_ 6 (by decide +kernel) rfl)) (C.2.2.2.2.1 _ (tb_ 176 (by decide +kernel) rfl)) (C.2.2.2.2.1 _ (tb_ 177 (by decide +kernel) rfl)) rfl (by decide +kernel) hR
set_option maxRecDepth 100000 in
theorem gv_Si_54 : GoodIn g_tbl (va_wsS "SiteChoice" 54 y_Si_isWithin w_Si_isWithin) := gi_ (List.forall_mem_append.mpr ⟨List.forall_mem_cons.mpr ⟨tb_ 218 (by decide +kernel) rfl, List.forall_mem_cons.mpr ⟨tb_ 219 (by decide +kernel) rfl, List.forall_mem_cons.mpr ⟨tb_ 1 (by decide +kernel) rfl, fun _ h => absurd h List.not_mem_nil⟩⟩⟩, u_Si_isWithin⟩)
set_option maxRecDepth 100000 in
theorem cv_Si_54 (E : sx_E) {cc : ByteArray} (C : sx_C SC g_tbl "SiteChoice" cc E) (rm : Room) (hR : rm.frames + 1 ≤ (sx_R E).frames ∧ 8 + (6 + 11) + rm.locals ≤ (sx_R E).locals) : CallB (sx_R E) (sx_s E) (sx_a E) "SiteChoice" 54 y_Si_isWithin c_Si_isWithin 6 (some .boolean) w_Si_isWithin rm rm.cells rm.slots 3 ∧ (Cond.static y_Si_isWithin).before (sx_a E) (sx_s E) = true := va_cwS 3 C.2.2.2.2.1 gv_Si_54 rfl rfl rfl (by decide +kernel) hR
set_option maxRecDepth 100000 in
theorem gv_Si_58 : GoodIn g_tbl (wsV "SiteChoice" 58 "SiteChoice$Town" y_To_addDistrict w_To_addDistrict) := gi_ (List.forall_mem_append.mpr ⟨List.forall_mem_cons.mpr ⟨tb_ 221 (by decide +kernel) rfl, List.forall_mem_cons.mpr ⟨tb_ 222 (by decide +kernel) rfl, List.forall_mem_cons.mpr ⟨tb_ 223 (by decide +kernel) rfl, List.forall_mem_cons.mpr ⟨tb_ 2 (by decide +kernel) rfl, fun _ h => absurd h List.not_mem_nil⟩⟩⟩⟩, u_To_addDistrict⟩)
set_option maxRecDepth 100000 in
theorem cv_Si_58 (E : sx_E) {cc : ByteArray} (C : sx_C SC g_tbl "SiteChoice" cc E) (rm : Room) (hR : rm.frames + 1 ≤ (sx_R E).frames ∧ 8 + (4 + 11) + rm.locals ≤ (sx_R E).locals) : CallW (sx_R E) (sx_s E) (sx_a E) "SiteChoice" "SiteChoice$Town" 58 y_To_addDistrict c_To_addDistrict 4 (some .int) w_To_addDistrict rm rm.cells rm.slots 1 := cwV 1 C.2.2.2.2.1 gv_Si_58 rfl rfl rfl (by decide +kernel) hR
set_option maxRecDepth 100000 in
theorem gv_Si_71 : GoodIn g_tbl (wsV "SiteChoice" 71 "SiteChoice$Town" y_To_addPlace w_To_addPlace) := gi_ (List.forall_mem_append.mpr ⟨List.forall_mem_cons.mpr ⟨tb_ 237 (by decide +kernel) rfl, List.forall_mem_cons.mpr ⟨tb_ 238 (by decide +kernel) rfl, List.forall_mem_cons.mpr ⟨tb_ 239 (by decide +kernel) rfl, List.forall_mem_cons.mpr ⟨tb_ 2 (by decide +kernel) rfl, fun _ h => absurd h List.not_mem_nil⟩⟩⟩⟩, u_To_addPlace⟩)
set_option maxRecDepth 100000 in
theorem cv_Si_71 (E : sx_E) {cc : ByteArray} (C : sx_C SC g_tbl "SiteChoice" cc E) (rm : Room) (hR : rm.frames + 1 ≤ (sx_R E).frames ∧ 8 + (10 + 11) + rm.locals ≤ (sx_R E).locals) : CallW (sx_R E) (sx_s E) (sx_a E) "SiteChoice" "SiteChoice$Town" 71 y_To_addPlace c_To_addPlace 10 (some .int) w_To_addPlace rm rm.cells rm.slots 4 := cwV 4 C.2.2.2.2.1 gv_Si_71 rfl rfl rfl (by decide +kernel) hR
set_option maxRecDepth 100000 in
theorem gv_Si_75 : GoodIn g_tbl (wsV "SiteChoice" 75 "SiteChoice$Town" y_To_hasDistrict w_To_hasDistrict) := gi_ (List.forall_mem_append.mpr ⟨List.forall_mem_cons.mpr ⟨tb_ 245 (by decide +kernel) rfl, List.forall_mem_cons.mpr ⟨tb_ 246 (by decide +kernel) rfl, List.forall_mem_cons.mpr ⟨tb_ 247 (by decide +kernel) rfl, List.forall_mem_cons.mpr ⟨tb_ 2 (by decide +kernel) rfl, fun _ h => absurd h List.not_mem_nil⟩⟩⟩⟩, u_To_hasDistrict⟩)
set_option maxRecDepth 100000 in
theorem cv_Si_75 (E : sx_E) {cc : ByteArray} (C : sx_C SC g_tbl "SiteChoice" cc E) (rm : Room) (hR : rm.frames + 1 ≤ (sx_R E).frames ∧ 8 + (2 + 11) + rm.locals ≤ (sx_R E).locals) : CallW (sx_R E) (sx_s E) (sx_a E) "SiteChoice" "SiteChoice$Town" 75 y_To_hasDistrict c_To_hasDistrict 2 (some .boolean) w_To_hasDistrict rm rm.cells rm.slots 1 := cwV 1 C.2.2.2.2.1 gv_Si_75 rfl rfl rfl (by decide +kernel) hR
set_option maxRecDepth 100000 in
theorem gv_Si_79 : GoodIn g_tbl (wsV "SiteChoice" 79 "SiteChoice$Town" y_To_hasPlace w_To_hasPlace) := gi_ (List.forall_mem_append.mpr ⟨List.forall_mem_cons.mpr ⟨tb_ 249 (by decide +kernel) rfl, List.forall_mem_cons.mpr ⟨tb_ 250 (by decide +kernel) rfl, List.forall_mem_cons.mpr ⟨tb_ 251 (by decide +kernel) rfl, List.forall_mem_cons.mpr ⟨tb_ 2 (by decide +kernel) rfl, fun _ h => absurd h List.not_mem_nil⟩⟩⟩⟩, u_To_hasPlace⟩)
set_option maxRecDepth 100000 in
theorem cv_Si_79 (E : sx_E) {cc : ByteArray} (C : sx_C SC g_tbl "SiteChoice" cc E) (rm : Room) (hR : rm.frames + 1 ≤ (sx_R E).frames ∧ 8 + (2 + 11) + rm.locals ≤ (sx_R E).locals) : CallW (sx_R E) (sx_s E) (sx_a E) "SiteChoice" "SiteChoice$Town" 79 y_To_hasPlace c_To_hasPlace 2 (some .boolean) w_To_hasPlace rm rm.cells rm.slots 1 := cwV 1 C.2.2.2.2.1 gv_Si_79 rfl rfl rfl (by decide +kernel) hR
set_option maxRecDepth 100000 in
theorem gv_Si_107 : GoodIn g_tbl (wsV "SiteChoice" 107 "SiteChoice$Town" y_To_countWays w_To_countWays) := gi_ (List.forall_mem_append.mpr ⟨List.forall_mem_cons.mpr ⟨tb_ 276 (by decide +kernel) rfl, List.forall_mem_cons.mpr ⟨tb_ 277 (by decide +kernel) rfl, List.forall_mem_cons.mpr ⟨tb_ 278 (by decide +kernel) rfl, List.forall_mem_cons.mpr ⟨tb_ 2 (by decide +kernel) rfl, fun _ h => absurd h List.not_mem_nil⟩⟩⟩⟩, u_To_countWays⟩)
set_option maxRecDepth 100000 in
theorem cv_Si_107 (E : sx_E) {cc : ByteArray} (C : sx_C SC g_tbl "SiteChoice" cc E) (rm : Room) (hR : rm.frames + 1 ≤ (sx_R E).frames ∧ 8 + (4 + 11) + rm.locals ≤ (sx_R E).locals) : CallW (sx_R E) (sx_s E) (sx_a E) "SiteChoice" "SiteChoice$Town" 107 y_To_countWays c_To_countWays 4 (some .long) w_To_countWays rm rm.cells rm.slots 0 := cwV 0 C.2.2.2.2.1 gv_Si_107 rfl rfl rfl (by decide +kernel) hR
set_option maxRecDepth 100000 in
theorem gv_Si_111 : GoodIn g_tbl (wsV "SiteChoice" 111 "SiteChoice$HeldPlan" y_He_drop w_He_drop) := gi_ (List.forall_mem_append.mpr ⟨List.forall_mem_cons.mpr ⟨tb_ 294 (by decide +kernel) rfl, List.forall_mem_cons.mpr ⟨tb_ 295 (by decide +kernel) rfl, List.forall_mem_cons.mpr ⟨tb_ 296 (by decide +kernel) rfl, List.forall_mem_cons.mpr ⟨tb_ 4 (by decide +kernel) rfl, fun _ h => absurd h List.not_mem_nil⟩⟩⟩⟩, u_He_drop⟩)
set_option maxRecDepth 100000 in
theorem cv_Si_111 (E : sx_E) {cc : ByteArray} (C : sx_C SC g_tbl "SiteChoice" cc E) (rm : Room) (hR : rm.frames + 1 ≤ (sx_R E).frames ∧ 8 + (1 + 11) + rm.locals ≤ (sx_R E).locals) : CallW (sx_R E) (sx_s E) (sx_a E) "SiteChoice" "SiteChoice$HeldPlan" 111 y_He_drop c_He_drop 1 none w_He_drop rm rm.cells rm.slots 0 := cwV 0 C.2.2.2.2.1 gv_Si_111 rfl rfl rfl (by decide +kernel) hR
set_option maxRecDepth 100000 in
theorem gv_Si_114 : GoodIn g_tbl (wsV "SiteChoice" 114 "SiteChoice$Unserved" y_Un_forget w_Un_forget) := gi_ (List.forall_mem_append.mpr ⟨List.forall_mem_cons.mpr ⟨tb_ 298 (by decide +kernel) rfl, List.forall_mem_cons.mpr ⟨tb_ 299 (by decide +kernel) rfl, List.forall_mem_cons.mpr ⟨tb_ 300 (by decide +kernel) rfl, List.forall_mem_cons.mpr ⟨tb_ 5 (by decide +kernel) rfl, fun _ h => absurd h List.not_mem_nil⟩⟩⟩⟩, u_Un_forget⟩)
set_option maxRecDepth 100000 in
theorem cv_Si_114 (E : sx_E) {cc : ByteArray} (C : sx_C SC g_tbl "SiteChoice" cc E) (rm : Room) (hR : rm.frames + 1 ≤ (sx_R E).frames ∧ 8 + (1 + 11) + rm.locals ≤ (sx_R E).locals) : CallW (sx_R E) (sx_s E) (sx_a E) "SiteChoice" "SiteChoice$Unserved" 114 y_Un_forget c_Un_forget 1 none w_Un_forget rm rm.cells rm.slots 0 := cwV 0 C.2.2.2.2.1 gv_Si_114 rfl rfl rfl (by decide +kernel) hR
set_option maxRecDepth 100000 in
theorem gv_Si_117 : GoodIn g_tbl (wsV "SiteChoice" 117 "SiteChoice$Search" y_Se_load w_Se_load) := gi_ (List.forall_mem_append.mpr ⟨List.forall_mem_cons.mpr ⟨tb_ 302 (by decide +kernel) rfl, List.forall_mem_cons.mpr ⟨tb_ 303 (by decide +kernel) rfl, List.forall_mem_cons.mpr ⟨tb_ 304 (by decide +kernel) rfl, List.forall_mem_cons.mpr ⟨tb_ 3 (by decide +kernel) rfl, fun _ h => absurd h List.not_mem_nil⟩⟩⟩⟩, u_Se_load⟩)
set_option maxRecDepth 100000 in
theorem cv_Si_117 (E : sx_E) {cc : ByteArray} (C : sx_C SC g_tbl "SiteChoice" cc E) (rm : Room) (hR : rm.frames + 1 ≤ (sx_R E).frames ∧ 8 + (5 + 11) + rm.locals ≤ (sx_R E).locals) : CallW (sx_R E) (sx_s E) (sx_a E) "SiteChoice" "SiteChoice$Search" 117 y_Se_load c_Se_load 5 none w_Se_load rm rm.cells rm.slots 2 := cwV 2 C.2.2.2.2.1 gv_Si_117 rfl rfl rfl (by decide +kernel) hR
set_option maxRecDepth 100000 in
theorem gv_Si_121 : GoodIn g_tbl (wsV "SiteChoice" 121 "SiteChoice$Search" y_Se_leastSum w_Se_leastSum) := gi_ (List.forall_mem_append.mpr ⟨List.forall_mem_cons.mpr ⟨tb_ 327 (by decide +kernel) rfl, List.forall_mem_cons.mpr ⟨tb_ 328 (by decide +kernel) rfl, List.forall_mem_cons.mpr ⟨tb_ 329 (by decide +kernel) rfl, List.forall_mem_cons.mpr ⟨tb_ 3 (by decide +kernel) rfl, fun _ h => absurd h List.not_mem_nil⟩⟩⟩⟩, u_Se_leastSum⟩)
set_option maxRecDepth 100000 in
theorem cv_Si_121 (E : sx_E) {cc : ByteArray} (C : sx_C SC g_tbl "SiteChoice" cc E) (rm : Room) (hR : rm.frames + 1 ≤ (sx_R E).frames ∧ 8 + (2 + 11) + rm.locals ≤ (sx_R E).locals) : CallW (sx_R E) (sx_s E) (sx_a E) "SiteChoice" "SiteChoice$Search" 121 y_Se_leastSum c_Se_leastSum 2 (some .long) w_Se_leastSum rm rm.cells rm.slots 1 := cwV 1 C.2.2.2.2.1 gv_Si_121 rfl rfl rfl (by decide +kernel) hR
set_option maxRecDepth 100000 in
theorem gv_Si_127 : GoodIn g_tbl (wsV "SiteChoice" 127 "SiteChoice$Unserved" y_Un_find w_Un_find) := gi_ (List.forall_mem_append.mpr ⟨List.forall_mem_cons.mpr ⟨tb_ 374 (by decide +kernel) rfl, List.forall_mem_cons.mpr ⟨tb_ 375 (by decide +kernel) rfl, List.forall_mem_cons.mpr ⟨tb_ 376 (by decide +kernel) rfl, List.forall_mem_cons.mpr ⟨tb_ 5 (by decide +kernel) rfl, fun _ h => absurd h List.not_mem_nil⟩⟩⟩⟩, u_Un_find⟩)
set_option maxRecDepth 100000 in
theorem cv_Si_127 (E : sx_E) {cc : ByteArray} (C : sx_C SC g_tbl "SiteChoice" cc E) (rm : Room) (hR : rm.frames + 1 ≤ (sx_R E).frames ∧ 8 + (6 + 11) + rm.locals ≤ (sx_R E).locals) : CallW (sx_R E) (sx_s E) (sx_a E) "SiteChoice" "SiteChoice$Unserved" 127 y_Un_find c_Un_find 6 none w_Un_find rm rm.cells rm.slots 2 := cwV 2 C.2.2.2.2.1 gv_Si_127 rfl rfl rfl (by decide +kernel) hR
set_option maxRecDepth 100000 in
theorem gv_Si_135 : GoodIn g_tbl (wsV "SiteChoice" 135 "SiteChoice$HeldPlan" y_He_keep w_He_keep) := gi_ (List.forall_mem_append.mpr ⟨List.forall_mem_cons.mpr ⟨tb_ 401 (by decide +kernel) rfl, List.forall_mem_cons.mpr ⟨tb_ 402 (by decide +kernel) rfl, List.forall_mem_cons.mpr ⟨tb_ 403 (by decide +kernel) rfl, List.forall_mem_cons.mpr ⟨tb_ 4 (by decide +kernel) rfl, fun _ h => absurd h List.not_mem_nil⟩⟩⟩⟩, u_He_keep⟩)
set_option maxRecDepth 100000 in
theorem cv_Si_135 (E : sx_E) {cc : ByteArray} (C : sx_C SC g_tbl "SiteChoice" cc E) (rm : Room) (hR : rm.frames + 1 ≤ (sx_R E).frames ∧ 8 + (4 + 11) + rm.locals ≤ (sx_R E).locals) : CallW (sx_R E) (sx_s E) (sx_a E) "SiteChoice" "SiteChoice$HeldPlan" 135 y_He_keep c_He_keep 4 none w_He_keep rm rm.cells rm.slots 2 := cwV 2 C.2.2.2.2.1 gv_Si_135 rfl rfl rfl (by decide +kernel) hR
set_option maxRecDepth 100000 in
theorem gv_Si_139 : GoodIn g_tbl (wsV "SiteChoice" 139 "SiteChoice$HeldPlan" y_He_gives w_He_gives) := gi_ (List.forall_mem_append.mpr ⟨List.forall_mem_cons.mpr ⟨tb_ 410 (by decide +kernel) rfl, List.forall_mem_cons.mpr ⟨tb_ 411 (by decide +kernel) rfl, List.forall_mem_cons.mpr ⟨tb_ 412 (by decide +kernel) rfl, List.forall_mem_cons.mpr ⟨tb_ 4 (by decide +kernel) rfl, fun _ h => absurd h List.not_mem_nil⟩⟩⟩⟩, u_He_gives⟩)
set_option maxRecDepth 100000 in
theorem cv_Si_139 (E : sx_E) {cc : ByteArray} (C : sx_C SC g_tbl "SiteChoice" cc E) (rm : Room) (hR : rm.frames + 1 ≤ (sx_R E).frames ∧ 8 + (3 + 11) + rm.locals ≤ (sx_R E).locals) : CallW (sx_R E) (sx_s E) (sx_a E) "SiteChoice" "SiteChoice$HeldPlan" 139 y_He_gives c_He_gives 3 (some .boolean) w_He_gives rm rm.cells rm.slots 1 := cwV 1 C.2.2.2.2.1 gv_Si_139 rfl rfl rfl (by decide +kernel) hR
set_option maxRecDepth 100000 in
theorem gv_Si_142 : GoodIn g_tbl (wsV "SiteChoice" 142 "SiteChoice$HeldPlan" y_He_placeFor w_He_placeFor) := gi_ (List.forall_mem_append.mpr ⟨List.forall_mem_cons.mpr ⟨tb_ 422 (by decide +kernel) rfl, List.forall_mem_cons.mpr ⟨tb_ 415 (by decide +kernel) rfl, List.forall_mem_cons.mpr ⟨tb_ 416 (by decide +kernel) rfl, List.forall_mem_cons.mpr ⟨tb_ 4 (by decide +kernel) rfl, fun _ h => absurd h List.not_mem_nil⟩⟩⟩⟩, u_He_placeFor⟩)
set_option maxRecDepth 100000 in
theorem cv_Si_142 (E : sx_E) {cc : ByteArray} (C : sx_C SC g_tbl "SiteChoice" cc E) (rm : Room) (hR : rm.frames + 1 ≤ (sx_R E).frames ∧ 8 + (2 + 11) + rm.locals ≤ (sx_R E).locals) : CallW (sx_R E) (sx_s E) (sx_a E) "SiteChoice" "SiteChoice$HeldPlan" 142 y_He_placeFor c_He_placeFor 2 (some .int) w_He_placeFor rm rm.cells rm.slots 1 := cwV 1 C.2.2.2.2.1 gv_Si_142 rfl rfl rfl (by decide +kernel) hR
set_option maxRecDepth 100000 in
theorem gv_Si_152 : GoodIn g_tbl (wsV "SiteChoice" 152 "SiteChoice$Search" y_Se_leastThinkable w_Se_leastThinkable) := gi_ (List.forall_mem_append.mpr ⟨List.forall_mem_cons.mpr ⟨tb_ 431 (by decide +kernel) rfl, List.forall_mem_cons.mpr ⟨tb_ 432 (by decide +kernel) rfl, List.forall_mem_cons.mpr ⟨tb_ 433 (by decide +kernel) rfl, List.forall_mem_cons.mpr ⟨tb_ 3 (by decide +kernel) rfl, fun _ h => absurd h List.not_mem_nil⟩⟩⟩⟩, u_Se_leastThinkable⟩)
set_option maxRecDepth 100000 in
theorem cv_Si_152 (E : sx_E) {cc : ByteArray} (C : sx_C SC g_tbl "SiteChoice" cc E) (rm : Room) (hR : rm.frames + 1 ≤ (sx_R E).frames ∧ 8 + (1 + 11) + rm.locals ≤ (sx_R E).locals) : CallW (sx_R E) (sx_s E) (sx_a E) "SiteChoice" "SiteChoice$Search" 152 y_Se_leastThinkable c_Se_leastThinkable 1 (some .long) w_Se_leastThinkable rm rm.cells rm.slots 0 := cwV 0 C.2.2.2.2.1 gv_Si_152 rfl rfl rfl (by decide +kernel) hR
set_option maxRecDepth 100000 in
theorem gv_Si_155 : GoodIn g_tbl (wsV "SiteChoice" 155 "SiteChoice$Unserved" y_Un_member w_Un_member) := gi_ (List.forall_mem_append.mpr ⟨List.forall_mem_cons.mpr ⟨tb_ 443 (by decide +kernel) rfl, List.forall_mem_cons.mpr ⟨tb_ 444 (by decide +kernel) rfl, List.forall_mem_cons.mpr ⟨tb_ 445 (by decide +kernel) rfl, List.forall_mem_cons.mpr ⟨tb_ 5 (by decide +kernel) rfl, fun _ h => absurd h List.not_mem_nil⟩⟩⟩⟩, u_Un_member⟩)
set_option maxRecDepth 100000 in
theorem cv_Si_155 (E : sx_E) {cc : ByteArray} (C : sx_C SC g_tbl "SiteChoice" cc E) (rm : Room) (hR : rm.frames + 1 ≤ (sx_R E).frames ∧ 8 + (2 + 11) + rm.locals ≤ (sx_R E).locals) : CallW (sx_R E) (sx_s E) (sx_a E) "SiteChoice" "SiteChoice$Unserved" 155 y_Un_member c_Un_member 2 (some .int) w_Un_member rm rm.cells rm.slots 1 := cwV 1 C.2.2.2.2.1 gv_Si_155 rfl rfl rfl (by decide +kernel) hR
set_option maxRecDepth 100000 in
theorem gv_Si_164 : GoodIn g_tbl (wsV "SiteChoice" 164 "SiteChoice$HeldPlan" y_He_exchangeFirst w_He_exchangeFirst) := gi_ (List.forall_mem_append.mpr ⟨List.forall_mem_cons.mpr ⟨tb_ 458 (by decide +kernel) rfl, List.forall_mem_cons.mpr ⟨tb_ 459 (by decide +kernel) rfl, List.forall_mem_cons.mpr ⟨tb_ 460 (by decide +kernel) rfl, List.forall_mem_cons.mpr ⟨tb_ 4 (by decide +kernel) rfl, fun _ h => absurd h List.not_mem_nil⟩⟩⟩⟩, u_He_exchangeFirst⟩)
set_option maxRecDepth 100000 in
theorem cv_Si_164 (E : sx_E) {cc : ByteArray} (C : sx_C SC g_tbl "SiteChoice" cc E) (rm : Room) (hR : rm.frames + 1 ≤ (sx_R E).frames ∧ 8 + (5 + 11) + rm.locals ≤ (sx_R E).locals) : CallW (sx_R E) (sx_s E) (sx_a E) "SiteChoice" "SiteChoice$HeldPlan" 164 y_He_exchangeFirst c_He_exchangeFirst 5 (some .boolean) w_He_exchangeFirst rm rm.cells rm.slots 2 := cwV 2 C.2.2.2.2.1 gv_Si_164 rfl rfl rfl (by decide +kernel) hR
set_option maxRecDepth 100000 in
theorem gv_Si_168 : GoodIn g_tbl (wsV "SiteChoice" 168 "SiteChoice$HeldPlan" y_He_reckonTotal w_He_reckonTotal) := gi_ (List.forall_mem_append.mpr ⟨List.forall_mem_cons.mpr ⟨tb_ 473 (by decide +kernel) rfl, List.forall_mem_cons.mpr ⟨tb_ 474 (by decide +kernel) rfl, List.forall_mem_cons.mpr ⟨tb_ 475 (by decide +kernel) rfl, List.forall_mem_cons.mpr ⟨tb_ 4 (by decide +kernel) rfl, fun _ h => absurd h List.not_mem_nil⟩⟩⟩⟩, u_He_reckonTotal⟩)
set_option maxRecDepth 100000 in
theorem cv_Si_168 (E : sx_E) {cc : ByteArray} (C : sx_C SC g_tbl "SiteChoice" cc E) (rm : Room) (hR : rm.frames + 1 ≤ (sx_R E).frames ∧ 8 + (4 + 11) + rm.locals ≤ (sx_R E).locals) : CallW (sx_R E) (sx_s E) (sx_a E) "SiteChoice" "SiteChoice$HeldPlan" 168 y_He_reckonTotal c_He_reckonTotal 4 none w_He_reckonTotal rm rm.cells rm.slots 1 := cwV 1 C.2.2.2.2.1 gv_Si_168 rfl rfl rfl (by decide +kernel) hR
set_option maxRecDepth 100000 in
theorem gv_Si_174 : GoodIn g_tbl (wsV "SiteChoice" 174 "SiteChoice$Calendar" y_Ca_lookOver w_Ca_lookOver) := gi_ (List.forall_mem_append.mpr ⟨List.forall_mem_cons.mpr ⟨tb_ 482 (by decide +kernel) rfl, List.forall_mem_cons.mpr ⟨tb_ 483 (by decide +kernel) rfl, List.forall_mem_cons.mpr ⟨tb_ 484 (by decide +kernel) rfl, List.forall_mem_cons.mpr ⟨tb_ 6 (by decide +kernel) rfl, fun _ h => absurd h List.not_mem_nil⟩⟩⟩⟩, u_Ca_lookOver⟩)
set_option maxRecDepth 100000 in
theorem cv_Si_174 (E : sx_E) {cc : ByteArray} (C : sx_C SC g_tbl "SiteChoice" cc E) (rm : Room) (hR : rm.frames + 1 ≤ (sx_R E).frames ∧ 8 + (6 + 11) + rm.locals ≤ (sx_R E).locals) : CallW (sx_R E) (sx_s E) (sx_a E) "SiteChoice" "SiteChoice$Calendar" 174 y_Ca_lookOver c_Ca_lookOver 6 (some .long) w_Ca_lookOver rm rm.cells rm.slots 3 := cwV 3 C.2.2.2.2.1 gv_Si_174 rfl rfl rfl (by decide +kernel) hR
set_option maxRecDepth 100000 in
theorem gv_Si_178 : GoodIn g_tbl (wsV "SiteChoice" 178 "SiteChoice$Calendar" y_Ca_isOpenIn w_Ca_isOpenIn) := gi_ (List.forall_mem_append.mpr ⟨List.forall_mem_cons.mpr ⟨tb_ 514 (by decide +kernel) rfl, List.forall_mem_cons.mpr ⟨tb_ 515 (by decide +kernel) rfl, List.forall_mem_cons.mpr ⟨tb_ 516 (by decide +kernel) rfl, List.forall_mem_cons.mpr ⟨tb_ 6 (by decide +kernel) rfl, fun _ h => absurd h List.not_mem_nil⟩⟩⟩⟩, u_Ca_isOpenIn⟩)
set_option maxRecDepth 100000 in
theorem cv_Si_178 (E : sx_E) {cc : ByteArray} (C : sx_C SC g_tbl "SiteChoice" cc E) (rm : Room) (hR : rm.frames + 1 ≤ (sx_R E).frames ∧ 8 + (3 + 11) + rm.locals ≤ (sx_R E).locals) : CallW (sx_R E) (sx_s E) (sx_a E) "SiteChoice" "SiteChoice$Calendar" 178 y_Ca_isOpenIn c_Ca_isOpenIn 3 (some .int) w_Ca_isOpenIn rm rm.cells rm.slots 2 := cwV 2 C.2.2.2.2.1 gv_Si_178 rfl rfl rfl (by decide +kernel) hR
set_option maxRecDepth 100000 in
theorem gv_Mo_82 : GoodIn g_tbl (va_wsS "SiteChoiceModel" 82 y_Mo_isIn w_Mo_isIn) := gi_ (List.forall_mem_append.mpr ⟨List.forall_mem_cons.mpr ⟨tb_ 608 (by decide +kernel) rfl, List.forall_mem_cons.mpr ⟨tb_ 609 (by decide +kernel) rfl, List.forall_mem_cons.mpr ⟨tb_ 7 (by decide +kernel) rfl, fun _ h => absurd h List.not_mem_nil⟩⟩⟩, u_Mo_isIn⟩)
set_option maxRecDepth 100000 in
theorem cv_Mo_82 (E : sx_E) {cc : ByteArray} (C : sx_C SC g_tbl "SiteChoiceModel" cc E) (rm : Room) (hR : rm.frames + 1 ≤ (sx_R E).frames ∧ 8 + (6 + 11) + rm.locals ≤ (sx_R E).locals) : CallB (sx_R E) (sx_s E) (sx_a E) "SiteChoiceModel" 82 y_Mo_isIn c_Mo_isIn 6 (some .boolean) w_Mo_isIn rm rm.cells rm.slots 3 ∧ (Cond.static y_Mo_isIn).before (sx_a E) (sx_s E) = true := va_cwS 3 C.2.2.2.2.1 gv_Mo_82 rfl rfl rfl (by decide +kernel) hR
set_option maxRecDepth 100000 in
theorem gv_Mo_96 : GoodIn g_tbl (wsV "SiteChoiceModel" 96 "SiteChoiceModel" y_Mo_isDistrict w_Mo_isDistrict) := gi_ (List.forall_mem_append.mpr ⟨List.forall_mem_cons.mpr ⟨tb_ 622 (by decide +kernel) rfl, List.forall_mem_cons.mpr ⟨tb_ 624 (by decide +kernel) rfl, List.forall_mem_cons.mpr ⟨List.mem_filter.mpr ⟨List.mem_append_left _ (by decide +kernel), rfl⟩, List.forall_mem_cons.mpr ⟨tb_ 7 (by decide +kernel) rfl, fun _ h => absurd h List.not_mem_nil⟩⟩⟩⟩, u_Mo_isDistrict⟩)
set_option maxRecDepth 100000 in
theorem cv_Mo_96 (E : sx_E) {cc : ByteArray} (C : sx_C SC g_tbl "SiteChoiceModel" cc E) (rm : Room) (hR : rm.frames + 1 ≤ (sx_R E).frames ∧ 8 + (2 + 11) + rm.locals ≤ (sx_R E).locals) : CallW (sx_R E) (sx_s E) (sx_a E) "SiteChoiceModel" "SiteChoiceModel" 96 y_Mo_isDistrict c_Mo_isDistrict 2 (some .boolean) w_Mo_isDistrict rm rm.cells rm.slots 1 := cwV 1 C.2.2.2.2.1 gv_Mo_96 rfl rfl rfl (by decide +kernel) hR
set_option maxRecDepth 100000 in
theorem gv_Mo_100 : GoodIn g_tbl (wsV "SiteChoiceModel" 100 "SiteChoiceModel" y_Mo_isPlace w_Mo_isPlace) := gi_ (List.forall_mem_append.mpr ⟨List.forall_mem_cons.mpr ⟨tb_ 626 (by decide +kernel) rfl, List.forall_mem_cons.mpr ⟨tb_ 628 (by decide +kernel) rfl, List.forall_mem_cons.mpr ⟨List.mem_filter.mpr ⟨List.mem_append_left _ (by decide +kernel), rfl⟩, List.forall_mem_cons.mpr ⟨tb_ 7 (by decide +kernel) rfl, fun _ h => absurd h List.not_mem_nil⟩⟩⟩⟩, u_Mo_isPlace⟩)
set_option maxRecDepth 100000 in
theorem cv_Mo_100 (E : sx_E) {cc : ByteArray} (C : sx_C SC g_tbl "SiteChoiceModel" cc E) (rm : Room) (hR : rm.frames + 1 ≤ (sx_R E).frames ∧ 8 + (2 + 11) + rm.locals ≤ (sx_R E).locals) : CallW (sx_R E) (sx_s E) (sx_a E) "SiteChoiceModel" "SiteChoiceModel" 100 y_Mo_isPlace c_Mo_isPlace 2 (some .boolean) w_Mo_isPlace rm rm.cells rm.slots 1 := cwV 1 C.2.2.2.2.1 gv_Mo_100 rfl rfl rfl (by decide +kernel) hR
set_option maxRecDepth 100000 in
theorem gv_Mo_105 : GoodIn g_tbl (va_wsS "SiteChoiceModel" 105 y_Mo_has w_Mo_has) := gi_ (List.forall_mem_append.mpr ⟨List.forall_mem_cons.mpr ⟨tb_ 668 (by decide +kernel) rfl, List.forall_mem_cons.mpr ⟨tb_ 669 (by decide +kernel) rfl, List.forall_mem_cons.mpr ⟨tb_ 7 (by decide +kernel) rfl, fun _ h => absurd h List.not_mem_nil⟩⟩⟩, u_Mo_has⟩)
set_option maxRecDepth 100000 in
theorem cv_Mo_105 (E : sx_E) {cc : ByteArray} (C : sx_C SC g_tbl "SiteChoiceModel" cc E) (rm : Room) (hR : rm.frames + 1 ≤ (sx_R E).frames ∧ 8 + (2 + 11) + rm.locals ≤ (sx_R E).locals) : CallB (sx_R E) (sx_s E) (sx_a E) "SiteChoiceModel" 105 y_Mo_has c_Mo_has 2 (some .boolean) w_Mo_has rm rm.cells rm.slots 2 ∧ (Cond.static y_Mo_has).before (sx_a E) (sx_s E) = true := va_cwS 2 C.2.2.2.2.1 gv_Mo_105 rfl rfl rfl (by decide +kernel) hR
set_option maxRecDepth 100000 in
theorem gv_Mo_111 : GoodIn g_tbl (wsV "SiteChoiceModel" 111 "SiteChoiceModel" y_Mo_canGo w_Mo_canGo) := gi_ (List.forall_mem_append.mpr ⟨List.forall_mem_cons.mpr ⟨tb_ 651 (by decide +kernel) rfl, List.forall_mem_cons.mpr ⟨tb_ 653 (by decide +kernel) rfl, List.forall_mem_cons.mpr ⟨List.mem_filter.mpr ⟨List.mem_append_left _ (by decide +kernel), rfl⟩, List.forall_mem_cons.mpr ⟨tb_ 7 (by decide +kernel) rfl, fun _ h => absurd h List.not_mem_nil⟩⟩⟩⟩, u_Mo_canGo⟩)
set_option maxRecDepth 100000 in
theorem cv_Mo_111 (E : sx_E) {cc : ByteArray} (C : sx_C SC g_tbl "SiteChoiceModel" cc E) (rm : Room) (hR : rm.frames + 1 ≤ (sx_R E).frames ∧ 8 + (5 + 11) + rm.locals ≤ (sx_R E).locals) : CallW (sx_R E) (sx_s E) (sx_a E) "SiteChoiceModel" "SiteChoiceModel" 111 y_Mo_canGo c_Mo_canGo 5 (some .boolean) w_Mo_canGo rm rm.cells rm.slots 2 := cwV 2 C.2.2.2.2.1 gv_Mo_111 rfl rfl rfl (by decide +kernel) hR
set_option maxRecDepth 100000 in
theorem gv_Mo_114 : GoodIn g_tbl (wsV "SiteChoiceModel" 114 "SiteChoiceModel" y_Mo_fits w_Mo_fits) := gi_ (List.forall_mem_append.mpr ⟨List.forall_mem_cons.mpr ⟨tb_ 684 (by decide +kernel) rfl, List.forall_mem_cons.mpr ⟨tb_ 686 (by decide +kernel) rfl, List.forall_mem_cons.mpr ⟨List.mem_filter.mpr ⟨List.mem_append_left _ (by decide +kernel), rfl⟩, List.forall_mem_cons.mpr ⟨tb_ 7 (by decide +kernel) rfl, fun _ h => absurd h List.not_mem_nil⟩⟩⟩⟩, u_Mo_fits⟩)
set_option maxRecDepth 100000 in
theorem cv_Mo_114 (E : sx_E) {cc : ByteArray} (C : sx_C SC g_tbl "SiteChoiceModel" cc E) (rm : Room) (hR : rm.frames + 1 ≤ (sx_R E).frames ∧ 8 + (7 + 11) + rm.locals ≤ (sx_R E).locals) : CallW (sx_R E) (sx_s E) (sx_a E) "SiteChoiceModel" "SiteChoiceModel" 114 y_Mo_fits c_Mo_fits 7 (some .boolean) w_Mo_fits rm rm.cells rm.slots 2 := cwV 2 C.2.2.2.2.1 gv_Mo_114 rfl rfl rfl (by decide +kernel) hR
set_option maxRecDepth 100000 in
theorem gv_Mo_118 : GoodIn g_tbl (wsV "SiteChoiceModel" 118 "SiteChoiceModel" y_Mo_placesOf w_Mo_placesOf) := gi_ (List.forall_mem_append.mpr ⟨List.forall_mem_cons.mpr ⟨tb_ 688 (by decide +kernel) rfl, List.forall_mem_cons.mpr ⟨tb_ 690 (by decide +kernel) rfl, List.forall_mem_cons.mpr ⟨List.mem_filter.mpr ⟨List.mem_append_left _ (by decide +kernel), rfl⟩, List.forall_mem_cons.mpr ⟨tb_ 7 (by decide +kernel) rfl, fun _ h => absurd h List.not_mem_nil⟩⟩⟩⟩, u_Mo_placesOf⟩)
set_option maxRecDepth 100000 in
theorem cv_Mo_118 (E : sx_E) {cc : ByteArray} (C : sx_C SC g_tbl "SiteChoiceModel" cc E) (rm : Room) (hR : rm.frames + 1 ≤ (sx_R E).frames ∧ 8 + (4 + 11) + rm.locals ≤ (sx_R E).locals) : CallW (sx_R E) (sx_s E) (sx_a E) "SiteChoiceModel" "SiteChoiceModel" 118 y_Mo_placesOf c_Mo_placesOf 4 (some .int) w_Mo_placesOf rm rm.cells rm.slots 1 := cwV 1 C.2.2.2.2.1 gv_Mo_118 rfl rfl rfl (by decide +kernel) hR
set_option maxRecDepth 100000 in
theorem gv_Mo_122 : GoodIn g_tbl (wsV "SiteChoiceModel" 122 "SiteChoiceModel" y_Mo_mayBeOpen w_Mo_mayBeOpen) := gi_ (List.forall_mem_append.mpr ⟨List.forall_mem_cons.mpr ⟨tb_ 692 (by decide +kernel) rfl, List.forall_mem_cons.mpr ⟨tb_ 694 (by decide +kernel) rfl, List.forall_mem_cons.mpr ⟨List.mem_filter.mpr ⟨List.mem_append_left _ (by decide +kernel), rfl⟩, List.forall_mem_cons.mpr ⟨tb_ 7 (by decide +kernel) rfl, fun _ h => absurd h List.not_mem_nil⟩⟩⟩⟩, u_Mo_mayBeOpen⟩)
set_option maxRecDepth 100000 in
theorem cv_Mo_122 (E : sx_E) {cc : ByteArray} (C : sx_C SC g_tbl "SiteChoiceModel" cc E) (rm : Room) (hR : rm.frames + 1 ≤ (sx_R E).frames ∧ 8 + (11 + 11) + rm.locals ≤ (sx_R E).locals) : CallW (sx_R E) (sx_s E) (sx_a E) "SiteChoiceModel" "SiteChoiceModel" 122 y_Mo_mayBeOpen c_Mo_mayBeOpen 11 (some .boolean) w_Mo_mayBeOpen rm rm.cells rm.slots 2 := cwV 2 C.2.2.2.2.1 gv_Mo_122 rfl rfl rfl (by decide +kernel) hR
set_option maxRecDepth 100000 in
theorem gv_Mo_125 : GoodIn g_tbl (wsV "SiteChoiceModel" 125 "SiteChoiceModel" y_Mo_count w_Mo_count) := gi_ (List.forall_mem_append.mpr ⟨List.forall_mem_cons.mpr ⟨tb_ 676 (by decide +kernel) rfl, List.forall_mem_cons.mpr ⟨tb_ 678 (by decide +kernel) rfl, List.forall_mem_cons.mpr ⟨List.mem_filter.mpr ⟨List.mem_append_left _ (by decide +kernel), rfl⟩, List.forall_mem_cons.mpr ⟨tb_ 7 (by decide +kernel) rfl, fun _ h => absurd h List.not_mem_nil⟩⟩⟩⟩, u_Mo_count⟩)
set_option maxRecDepth 100000 in
theorem cv_Mo_125 (E : sx_E) {cc : ByteArray} (C : sx_C SC g_tbl "SiteChoiceModel" cc E) (rm : Room) (hR : rm.frames + 1 ≤ (sx_R E).frames ∧ 8 + (3 + 11) + rm.locals ≤ (sx_R E).locals) : CallW (sx_R E) (sx_s E) (sx_a E) "SiteChoiceModel" "SiteChoiceModel" 125 y_Mo_count c_Mo_count 3 (some .int) w_Mo_count rm rm.cells rm.slots 0 := cwV 0 C.2.2.2.2.1 gv_Mo_125 rfl rfl rfl (by decide +kernel) hR
set_option maxRecDepth 100000 in
theorem gv_Mo_129 : GoodIn g_tbl (wsV "SiteChoiceModel" 129 "SiteChoiceModel" y_Mo_isPlan w_Mo_isPlan) := gi_ (List.forall_mem_append.mpr ⟨List.forall_mem_cons.mpr ⟨tb_ 680 (by decide +kernel) rfl, List.forall_mem_cons.mpr ⟨tb_ 682 (by decide +kernel) rfl, List.forall_mem_cons.mpr ⟨List.mem_filter.mpr ⟨List.mem_append_left _ (by decide +kernel), rfl⟩, List.forall_mem_cons.mpr ⟨tb_ 7 (by decide +kernel) rfl, fun _ h => absurd h List.not_mem_nil⟩⟩⟩⟩, u_Mo_isPlan⟩)
set_option maxRecDepth 100000 in
theorem cv_Mo_129 (E : sx_E) {cc : ByteArray} (C : sx_C SC g_tbl "SiteChoiceModel" cc E) (rm : Room) (hR : rm.frames + 1 ≤ (sx_R E).frames ∧ 8 + (4 + 11) + rm.locals ≤ (sx_R E).locals) : CallW (sx_R E) (sx_s E) (sx_a E) "SiteChoiceModel" "SiteChoiceModel" 129 y_Mo_isPlan c_Mo_isPlan 4 (some .boolean) w_Mo_isPlan rm rm.cells rm.slots 2 := cwV 2 C.2.2.2.2.1 gv_Mo_129 rfl rfl rfl (by decide +kernel) hR
set_option maxRecDepth 100000 in
theorem gv_Mo_132 : GoodIn g_tbl (wsV "SiteChoiceModel" 132 "SiteChoiceModel" y_Mo_sumOf w_Mo_sumOf) := gi_ (List.forall_mem_append.mpr ⟨List.forall_mem_cons.mpr ⟨tb_ 696 (by decide +kernel) rfl, List.forall_mem_cons.mpr ⟨tb_ 698 (by decide +kernel) rfl, List.forall_mem_cons.mpr ⟨List.mem_filter.mpr ⟨List.mem_append_left _ (by decide +kernel), rfl⟩, List.forall_mem_cons.mpr ⟨tb_ 7 (by decide +kernel) rfl, fun _ h => absurd h List.not_mem_nil⟩⟩⟩⟩, u_Mo_sumOf⟩)
set_option maxRecDepth 100000 in
theorem cv_Mo_132 (E : sx_E) {cc : ByteArray} (C : sx_C SC g_tbl "SiteChoiceModel" cc E) (rm : Room) (hR : rm.frames + 1 ≤ (sx_R E).frames ∧ 8 + (5 + 11) + rm.locals ≤ (sx_R E).locals) : CallW (sx_R E) (sx_s E) (sx_a E) "SiteChoiceModel" "SiteChoiceModel" 132 y_Mo_sumOf c_Mo_sumOf 5 (some .long) w_Mo_sumOf rm rm.cells rm.slots 1 := cwV 1 C.2.2.2.2.1 gv_Mo_132 rfl rfl rfl (by decide +kernel) hR
set_option maxRecDepth 100000 in
theorem gv_Mo_136 : GoodIn g_tbl (wsV "SiteChoiceModel" 136 "SiteChoiceModel" y_Mo_next w_Mo_next) := gi_ (List.forall_mem_append.mpr ⟨List.forall_mem_cons.mpr ⟨tb_ 700 (by decide +kernel) rfl, List.forall_mem_cons.mpr ⟨tb_ 702 (by decide +kernel) rfl, List.forall_mem_cons.mpr ⟨List.mem_filter.mpr ⟨List.mem_append_left _ (by decide +kernel), rfl⟩, List.forall_mem_cons.mpr ⟨tb_ 7 (by decide +kernel) rfl, fun _ h => absurd h List.not_mem_nil⟩⟩⟩⟩, u_Mo_next⟩)
set_option maxRecDepth 100000 in
theorem cv_Mo_136 (E : sx_E) {cc : ByteArray} (C : sx_C SC g_tbl "SiteChoiceModel" cc E) (rm : Room) (hR : rm.frames + 1 ≤ (sx_R E).frames ∧ 8 + (2 + 11) + rm.locals ≤ (sx_R E).locals) : CallW (sx_R E) (sx_s E) (sx_a E) "SiteChoiceModel" "SiteChoiceModel" 136 y_Mo_next c_Mo_next 2 (some .boolean) w_Mo_next rm rm.cells rm.slots 0 := cwV 0 C.2.2.2.2.1 gv_Mo_136 rfl rfl rfl (by decide +kernel) hR
set_option maxRecDepth 100000 in
theorem gv_Mo_143 : GoodIn g_tbl (wsV "SiteChoiceModel" 143 "SiteChoiceModel" y_Mo_all w_Mo_all) := gi_ (List.forall_mem_append.mpr ⟨List.forall_mem_cons.mpr ⟨tb_ 660 (by decide +kernel) rfl, List.forall_mem_cons.mpr ⟨tb_ 662 (by decide +kernel) rfl, List.forall_mem_cons.mpr ⟨List.mem_filter.mpr ⟨List.mem_append_left _ (by decide +kernel), rfl⟩, List.forall_mem_cons.mpr ⟨tb_ 7 (by decide +kernel) rfl, fun _ h => absurd h List.not_mem_nil⟩⟩⟩⟩, u_Mo_all⟩)
set_option maxRecDepth 100000 in
theorem cv_Mo_143 (E : sx_E) {cc : ByteArray} (C : sx_C SC g_tbl "SiteChoiceModel" cc E) (rm : Room) (hR : rm.frames + 1 ≤ (sx_R E).frames ∧ 8 + (1 + 11) + rm.locals ≤ (sx_R E).locals) : CallW (sx_R E) (sx_s E) (sx_a E) "SiteChoiceModel" "SiteChoiceModel" 143 y_Mo_all c_Mo_all 1 (some .int) w_Mo_all rm rm.cells rm.slots 0 := cwV 0 C.2.2.2.2.1 gv_Mo_143 rfl rfl rfl (by decide +kernel) hR
set_option maxRecDepth 100000 in
theorem gv_Mo_146 : GoodIn g_tbl (va_wsS "SiteChoiceModel" 146 y_Mo_size w_Mo_size) := gi_ (List.forall_mem_append.mpr ⟨List.forall_mem_cons.mpr ⟨tb_ 708 (by decide +kernel) rfl, List.forall_mem_cons.mpr ⟨tb_ 709 (by decide +kernel) rfl, List.forall_mem_cons.mpr ⟨tb_ 7 (by decide +kernel) rfl, fun _ h => absurd h List.not_mem_nil⟩⟩⟩, u_Mo_size⟩)
set_option maxRecDepth 100000 in
theorem cv_Mo_146 (E : sx_E) {cc : ByteArray} (C : sx_C SC g_tbl "SiteChoiceModel" cc E) (rm : Room) (hR : rm.frames + 1 ≤ (sx_R E).frames ∧ 8 + (3 + 11) + rm.locals ≤ (sx_R E).locals) : CallB (sx_R E) (sx_s E) (sx_a E) "SiteChoiceModel" 146 y_Mo_size c_Mo_size 3 (some .int) w_Mo_size rm rm.cells rm.slots 1 ∧ (Cond.static y_Mo_size).before (sx_a E) (sx_s E) = true := va_cwS 1 C.2.2.2.2.1 gv_Mo_146 rfl rfl rfl (by decide +kernel) hR
set_option maxRecDepth 100000 in
theorem gv_Mo_150 : GoodIn g_tbl (va_wsS "SiteChoiceModel" 150 y_Mo_isBefore w_Mo_isBefore) := gi_ (List.forall_mem_append.mpr ⟨List.forall_mem_cons.mpr ⟨tb_ 711 (by decide +kernel) rfl, List.forall_mem_cons.mpr ⟨tb_ 712 (by decide +kernel) rfl, List.forall_mem_cons.mpr ⟨tb_ 7 (by decide +kernel) rfl, fun _ h => absurd h List.not_mem_nil⟩⟩⟩, u_Mo_isBefore⟩)
set_option maxRecDepth 100000 in
theorem cv_Mo_150 (E : sx_E) {cc : ByteArray} (C : sx_C SC g_tbl "SiteChoiceModel" cc E) (rm : Room) (hR : rm.frames + 1 ≤ (sx_R E).frames ∧ 8 + (3 + 11) + rm.locals ≤ (sx_R E).locals) : CallB (sx_R E) (sx_s E) (sx_a E) "SiteChoiceModel" 150 y_Mo_isBefore c_Mo_isBefore 3 (some .boolean) w_Mo_isBefore rm rm.cells rm.slots 2 ∧ (Cond.static y_Mo_isBefore).before (sx_a E) (sx_s E) = true := va_cwS 2 C.2.2.2.2.1 gv_Mo_150 rfl rfl rfl (by decide +kernel) hR
set_option maxRecDepth 100000 in
theorem gv_Mo_153 : GoodIn g_tbl (wsV "SiteChoiceModel" 153 "SiteChoiceModel" y_Mo_askFor w_Mo_askFor) := gi_ (List.forall_mem_append.mpr ⟨List.forall_mem_cons.mpr ⟨tb_ 664 (by decide +kernel) rfl, List.forall_mem_cons.mpr ⟨tb_ 666 (by decide +kernel) rfl, List.forall_mem_cons.mpr ⟨List.mem_filter.mpr ⟨List.mem_append_left _ (by decide +kernel), rfl⟩, List.forall_mem_cons.mpr ⟨tb_ 7 (by decide +kernel) rfl, fun _ h => absurd h List.not_mem_nil⟩⟩⟩⟩, u_Mo_askFor⟩)
set_option maxRecDepth 100000 in
theorem cv_Mo_153 (E : sx_E) {cc : ByteArray} (C : sx_C SC g_tbl "SiteChoiceModel" cc E) (rm : Room) (hR : rm.frames + 1 ≤ (sx_R E).frames ∧ 8 + (5 + 11) + rm.locals ≤ (sx_R E).locals) : CallW (sx_R E) (sx_s E) (sx_a E) "SiteChoiceModel" "SiteChoiceModel" 153 y_Mo_askFor c_Mo_askFor 5 none w_Mo_askFor rm rm.cells rm.slots 2 := cwV 2 C.2.2.2.2.1 gv_Mo_153 rfl rfl rfl (by decide +kernel) hR
set_option maxRecDepth 100000 in
theorem gv_Mo_157 : GoodIn g_tbl (wsV "SiteChoiceModel" 157 "SiteChoiceModel" y_Mo_search w_Mo_search) := gi_ (List.forall_mem_append.mpr ⟨List.forall_mem_cons.mpr ⟨tb_ 672 (by decide +kernel) rfl, List.forall_mem_cons.mpr ⟨tb_ 674 (by decide +kernel) rfl, List.forall_mem_cons.mpr ⟨List.mem_filter.mpr ⟨List.mem_append_left _ (by decide +kernel), rfl⟩, List.forall_mem_cons.mpr ⟨tb_ 7 (by decide +kernel) rfl, fun _ h => absurd h List.not_mem_nil⟩⟩⟩⟩, u_Mo_search⟩)
set_option maxRecDepth 100000 in
theorem cv_Mo_157 (E : sx_E) {cc : ByteArray} (C : sx_C SC g_tbl "SiteChoiceModel" cc E) (rm : Room) (hR : rm.frames + 1 ≤ (sx_R E).frames ∧ 8 + (9 + 11) + rm.locals ≤ (sx_R E).locals) : CallW (sx_R E) (sx_s E) (sx_a E) "SiteChoiceModel" "SiteChoiceModel" 157 y_Mo_search c_Mo_search 9 (some .long) w_Mo_search rm rm.cells rm.slots 2 := cwV 2 C.2.2.2.2.1 gv_Mo_157 rfl rfl rfl (by decide +kernel) hR
set_option maxRecDepth 100000 in
theorem gv_Mo_164 : GoodIn g_tbl (wsV "SiteChoiceModel" 164 "SiteChoiceModel" y_Mo_ways w_Mo_ways) := gi_ (List.forall_mem_append.mpr ⟨List.forall_mem_cons.mpr ⟨tb_ 659 (by decide +kernel) rfl, List.forall_mem_cons.mpr ⟨tb_ 648 (by decide +kernel) rfl, List.forall_mem_cons.mpr ⟨tb_ 649 (by decide +kernel) rfl, List.forall_mem_cons.mpr ⟨tb_ 7 (by decide +kernel) rfl, fun _ h => absurd h List.not_mem_nil⟩⟩⟩⟩, u_Mo_ways⟩)
set_option maxRecDepth 100000 in
theorem cv_Mo_164 (E : sx_E) {cc : ByteArray} (C : sx_C SC g_tbl "SiteChoiceModel" cc E) (rm : Room) (hR : rm.frames + 1 ≤ (sx_R E).frames ∧ 8 + (7 + 11) + rm.locals ≤ (sx_R E).locals) : CallW (sx_R E) (sx_s E) (sx_a E) "SiteChoiceModel" "SiteChoiceModel" 164 y_Mo_ways c_Mo_ways 7 (some .long) w_Mo_ways rm rm.cells rm.slots 0 := cwV 0 C.2.2.2.2.1 gv_Mo_164 rfl rfl rfl (by decide +kernel) hR
set_option maxRecDepth 100000 in
theorem gv_Mo_168 : GoodIn g_tbl (wsV "SiteChoiceModel" 168 "SiteChoiceModel" y_Mo_findClash w_Mo_findClash) := gi_ (List.forall_mem_append.mpr ⟨List.forall_mem_cons.mpr ⟨tb_ 704 (by decide +kernel) rfl, List.forall_mem_cons.mpr ⟨tb_ 706 (by decide +kernel) rfl, List.forall_mem_cons.mpr ⟨List.mem_filter.mpr ⟨List.mem_append_left _ (by decide +kernel), rfl⟩, List.forall_mem_cons.mpr ⟨tb_ 7 (by decide +kernel) rfl, fun _ h => absurd h List.not_mem_nil⟩⟩⟩⟩, u_Mo_findClash⟩)
set_option maxRecDepth 100000 in
theorem cv_Mo_168 (E : sx_E) {cc : ByteArray} (C : sx_C SC g_tbl "SiteChoiceModel" cc E) (rm : Room) (hR : rm.frames + 1 ≤ (sx_R E).frames ∧ 8 + (3 + 11) + rm.locals ≤ (sx_R E).locals) : CallW (sx_R E) (sx_s E) (sx_a E) "SiteChoiceModel" "SiteChoiceModel" 168 y_Mo_findClash c_Mo_findClash 3 none w_Mo_findClash rm rm.cells rm.slots 0 := cwV 0 C.2.2.2.2.1 gv_Mo_168 rfl rfl rfl (by decide +kernel) hR
set_option maxRecDepth 100000 in
theorem gv_Mo_174 : GoodIn g_tbl (wsV "SiteChoiceModel" 174 "SiteChoiceModel" y_Mo_exchange w_Mo_exchange) := gi_ (List.forall_mem_append.mpr ⟨List.forall_mem_cons.mpr ⟨tb_ 746 (by decide +kernel) rfl, List.forall_mem_cons.mpr ⟨tb_ 748 (by decide +kernel) rfl, List.forall_mem_cons.mpr ⟨List.mem_filter.mpr ⟨List.mem_append_left _ (by decide +kernel), rfl⟩, List.forall_mem_cons.mpr ⟨tb_ 7 (by decide +kernel) rfl, fun _ h => absurd h List.not_mem_nil⟩⟩⟩⟩, u_Mo_exchange⟩)
set_option maxRecDepth 100000 in
theorem cv_Mo_174 (E : sx_E) {cc : ByteArray} (C : sx_C SC g_tbl "SiteChoiceModel" cc E) (rm : Room) (hR : rm.frames + 1 ≤ (sx_R E).frames ∧ 8 + (6 + 11) + rm.locals ≤ (sx_R E).locals) : CallW (sx_R E) (sx_s E) (sx_a E) "SiteChoiceModel" "SiteChoiceModel" 174 y_Mo_exchange c_Mo_exchange 6 (some .boolean) w_Mo_exchange rm rm.cells rm.slots 0 := cwV 0 C.2.2.2.2.1 gv_Mo_174 rfl rfl rfl (by decide +kernel) hR
set_option maxRecDepth 100000 in
theorem gv_Mo_179 : GoodIn g_tbl (wsV "SiteChoiceModel" 179 "SiteChoiceModel" y_Mo_reckon w_Mo_reckon) := gi_ (List.forall_mem_append.mpr ⟨List.forall_mem_cons.mpr ⟨tb_ 754 (by decide +kernel) rfl, List.forall_mem_cons.mpr ⟨tb_ 756 (by decide +kernel) rfl, List.forall_mem_cons.mpr ⟨List.mem_filter.mpr ⟨List.mem_append_left _ (by decide +kernel), rfl⟩, List.forall_mem_cons.mpr ⟨tb_ 7 (by decide +kernel) rfl, fun _ h => absurd h List.not_mem_nil⟩⟩⟩⟩, u_Mo_reckon⟩)
set_option maxRecDepth 100000 in
theorem cv_Mo_179 (E : sx_E) {cc : ByteArray} (C : sx_C SC g_tbl "SiteChoiceModel" cc E) (rm : Room) (hR : rm.frames + 1 ≤ (sx_R E).frames ∧ 8 + (8 + 11) + rm.locals ≤ (sx_R E).locals) : CallW (sx_R E) (sx_s E) (sx_a E) "SiteChoiceModel" "SiteChoiceModel" 179 y_Mo_reckon c_Mo_reckon 8 none w_Mo_reckon rm rm.cells rm.slots 1 := cwV 1 C.2.2.2.2.1 gv_Mo_179 rfl rfl rfl (by decide +kernel) hR
set_option maxRecDepth 100000 in
theorem gv_Mo_183 : GoodIn g_tbl (wsV "SiteChoiceModel" 183 "SiteChoiceModel" y_Mo_yearCost w_Mo_yearCost) := gi_ (List.forall_mem_append.mpr ⟨List.forall_mem_cons.mpr ⟨tb_ 759 (by decide +kernel) rfl, List.forall_mem_cons.mpr ⟨tb_ 761 (by decide +kernel) rfl, List.forall_mem_cons.mpr ⟨List.mem_filter.mpr ⟨List.mem_append_left _ (by decide +kernel), rfl⟩, List.forall_mem_cons.mpr ⟨tb_ 7 (by decide +kernel) rfl, fun _ h => absurd h List.not_mem_nil⟩⟩⟩⟩, u_Mo_yearCost⟩)
set_option maxRecDepth 100000 in
theorem cv_Mo_183 (E : sx_E) {cc : ByteArray} (C : sx_C SC g_tbl "SiteChoiceModel" cc E) (rm : Room) (hR : rm.frames + 1 ≤ (sx_R E).frames ∧ 8 + (7 + 11) + rm.locals ≤ (sx_R E).locals) : CallW (sx_R E) (sx_s E) (sx_a E) "SiteChoiceModel" "SiteChoiceModel" 183 y_Mo_yearCost c_Mo_yearCost 7 (some .long) w_Mo_yearCost rm rm.cells rm.slots 3 := cwV 3 C.2.2.2.2.1 gv_Mo_183 rfl rfl rfl (by decide +kernel) hR
set_option maxRecDepth 100000 in
theorem gv_Ca_27 : GoodIn g_tbl (wsV "SiteChoice$Calendar" 27 "SiteChoice$Search" y_Se_load w_Se_load) := gi_ (List.forall_mem_append.mpr ⟨List.forall_mem_cons.mpr ⟨tb_ 486 (by decide +kernel) rfl, List.forall_mem_cons.mpr ⟨tb_ 303 (by decide +kernel) rfl, List.forall_mem_cons.mpr ⟨tb_ 304 (by decide +kernel) rfl, List.forall_mem_cons.mpr ⟨tb_ 3 (by decide +kernel) rfl, fun _ h => absurd h List.not_mem_nil⟩⟩⟩⟩, u_Se_load⟩)
set_option maxRecDepth 100000 in
theorem cv_Ca_27 (E : sx_E) {cc : ByteArray} (C : sx_C SC g_tbl "SiteChoice$Calendar" cc E) (rm : Room) (hR : rm.frames + 1 ≤ (sx_R E).frames ∧ 8 + (5 + 11) + rm.locals ≤ (sx_R E).locals) : CallW (sx_R E) (sx_s E) (sx_a E) "SiteChoice$Calendar" "SiteChoice$Search" 27 y_Se_load c_Se_load 5 none w_Se_load rm rm.cells rm.slots 2 := cwV 2 C.2.2.2.2.1 gv_Ca_27 rfl rfl rfl (by decide +kernel) hR
set_option maxRecDepth 100000 in
theorem gv_Ca_38 : GoodIn g_tbl (wsV "SiteChoice$Calendar" 38 "SiteChoice$Calendar" y_Ca_reckonSums w_Ca_reckonSums) := gi_ (List.forall_mem_append.mpr ⟨List.forall_mem_cons.mpr ⟨tb_ 487 (by decide +kernel) rfl, List.forall_mem_cons.mpr ⟨tb_ 489 (by decide +kernel) rfl, List.forall_mem_cons.mpr ⟨List.mem_filter.mpr ⟨List.mem_append_left _ (by decide +kernel), rfl⟩, List.forall_mem_cons.mpr ⟨tb_ 6 (by decide +kernel) rfl, fun _ h => absurd h List.not_mem_nil⟩⟩⟩⟩, u_Ca_reckonSums⟩)
set_option maxRecDepth 100000 in
theorem cv_Ca_38 (E : sx_E) {cc : ByteArray} (C : sx_C SC g_tbl "SiteChoice$Calendar" cc E) (rm : Room) (hR : rm.frames + 1 ≤ (sx_R E).frames ∧ 8 + (7 + 11) + rm.locals ≤ (sx_R E).locals) : CallW (sx_R E) (sx_s E) (sx_a E) "SiteChoice$Calendar" "SiteChoice$Calendar" 38 y_Ca_reckonSums c_Ca_reckonSums 7 none w_Ca_reckonSums rm rm.cells rm.slots 4 := cwV 4 C.2.2.2.2.1 gv_Ca_38 rfl rfl rfl (by decide +kernel) hR
set_option maxRecDepth 100000 in
theorem gv_Ca_42 : GoodIn g_tbl (wsV "SiteChoice$Calendar" 42 "SiteChoice$Calendar" y_Ca_reckonOnward w_Ca_reckonOnward) := gi_ (List.forall_mem_append.mpr ⟨List.forall_mem_cons.mpr ⟨tb_ 494 (by decide +kernel) rfl, List.forall_mem_cons.mpr ⟨tb_ 496 (by decide +kernel) rfl, List.forall_mem_cons.mpr ⟨List.mem_filter.mpr ⟨List.mem_append_left _ (by decide +kernel), rfl⟩, List.forall_mem_cons.mpr ⟨tb_ 6 (by decide +kernel) rfl, fun _ h => absurd h List.not_mem_nil⟩⟩⟩⟩, u_Ca_reckonOnward⟩)
set_option maxRecDepth 100000 in
theorem cv_Ca_42 (E : sx_E) {cc : ByteArray} (C : sx_C SC g_tbl "SiteChoice$Calendar" cc E) (rm : Room) (hR : rm.frames + 1 ≤ (sx_R E).frames ∧ 8 + (6 + 11) + rm.locals ≤ (sx_R E).locals) : CallW (sx_R E) (sx_s E) (sx_a E) "SiteChoice$Calendar" "SiteChoice$Calendar" 42 y_Ca_reckonOnward c_Ca_reckonOnward 6 none w_Ca_reckonOnward rm rm.cells rm.slots 3 := cwV 3 C.2.2.2.2.1 gv_Ca_42 rfl rfl rfl (by decide +kernel) hR
set_option maxRecDepth 100000 in
theorem gv_Ca_46 : GoodIn g_tbl (wsV "SiteChoice$Calendar" 46 "SiteChoice$Calendar" y_Ca_cheapestNext w_Ca_cheapestNext) := gi_ (List.forall_mem_append.mpr ⟨List.forall_mem_cons.mpr ⟨tb_ 502 (by decide +kernel) rfl, List.forall_mem_cons.mpr ⟨tb_ 504 (by decide +kernel) rfl, List.forall_mem_cons.mpr ⟨List.mem_filter.mpr ⟨List.mem_append_left _ (by decide +kernel), rfl⟩, List.forall_mem_cons.mpr ⟨tb_ 6 (by decide +kernel) rfl, fun _ h => absurd h List.not_mem_nil⟩⟩⟩⟩, u_Ca_cheapestNext⟩)
set_option maxRecDepth 100000 in
theorem cv_Ca_46 (E : sx_E) {cc : ByteArray} (C : sx_C SC g_tbl "SiteChoice$Calendar" cc E) (rm : Room) (hR : rm.frames + 1 ≤ (sx_R E).frames ∧ 8 + (11 + 11) + rm.locals ≤ (sx_R E).locals) : CallW (sx_R E) (sx_s E) (sx_a E) "SiteChoice$Calendar" "SiteChoice$Calendar" 46 y_Ca_cheapestNext c_Ca_cheapestNext 11 (some .int) w_Ca_cheapestNext rm rm.cells rm.slots 4 := cwV 4 C.2.2.2.2.1 gv_Ca_46 rfl rfl rfl (by decide +kernel) hR
set_option maxRecDepth 100000 in
theorem gv_Ca_52 : GoodIn g_tbl (wsV "SiteChoice$Calendar" 52 "SiteChoice$Calendar" y_Ca_hold w_Ca_hold) := gi_ (List.forall_mem_append.mpr ⟨List.forall_mem_cons.mpr ⟨tb_ 506 (by decide +kernel) rfl, List.forall_mem_cons.mpr ⟨tb_ 508 (by decide +kernel) rfl, List.forall_mem_cons.mpr ⟨List.mem_filter.mpr ⟨List.mem_append_left _ (by decide +kernel), rfl⟩, List.forall_mem_cons.mpr ⟨tb_ 6 (by decide +kernel) rfl, fun _ h => absurd h List.not_mem_nil⟩⟩⟩⟩, u_Ca_hold⟩)
set_option maxRecDepth 100000 in
theorem cv_Ca_52 (E : sx_E) {cc : ByteArray} (C : sx_C SC g_tbl "SiteChoice$Calendar" cc E) (rm : Room) (hR : rm.frames + 1 ≤ (sx_R E).frames ∧ 8 + (7 + 11) + rm.locals ≤ (sx_R E).locals) : CallW (sx_R E) (sx_s E) (sx_a E) "SiteChoice$Calendar" "SiteChoice$Calendar" 52 y_Ca_hold c_Ca_hold 7 none w_Ca_hold rm rm.cells rm.slots 3 := cwV 3 C.2.2.2.2.1 gv_Ca_52 rfl rfl rfl (by decide +kernel) hR
set_option maxRecDepth 100000 in
theorem gv_Ca_59 : GoodIn g_tbl (wsV "SiteChoice$Calendar" 59 "SiteChoice$Search" y_Se_loadNeedsOfYear w_Se_loadNeedsOfYear) := gi_ (List.forall_mem_append.mpr ⟨List.forall_mem_cons.mpr ⟨tb_ 491 (by decide +kernel) rfl, List.forall_mem_cons.mpr ⟨tb_ 307 (by decide +kernel) rfl, List.forall_mem_cons.mpr ⟨tb_ 308 (by decide +kernel) rfl, List.forall_mem_cons.mpr ⟨tb_ 3 (by decide +kernel) rfl, fun _ h => absurd h List.not_mem_nil⟩⟩⟩⟩, u_Se_loadNeedsOfYear⟩)
set_option maxRecDepth 100000 in
theorem cv_Ca_59 (E : sx_E) {cc : ByteArray} (C : sx_C SC g_tbl "SiteChoice$Calendar" cc E) (rm : Room) (hR : rm.frames + 1 ≤ (sx_R E).frames ∧ 8 + (4 + 11) + rm.locals ≤ (sx_R E).locals) : CallW (sx_R E) (sx_s E) (sx_a E) "SiteChoice$Calendar" "SiteChoice$Search" 59 y_Se_loadNeedsOfYear c_Se_loadNeedsOfYear 4 none w_Se_loadNeedsOfYear rm rm.cells rm.slots 2 := cwV 2 C.2.2.2.2.1 gv_Ca_59 rfl rfl rfl (by decide +kernel) hR
set_option maxRecDepth 100000 in
theorem gv_Ca_66 : GoodIn g_tbl (wsV "SiteChoice$Calendar" 66 "SiteChoice$Search" y_Se_leastSum w_Se_leastSum) := gi_ (List.forall_mem_append.mpr ⟨List.forall_mem_cons.mpr ⟨tb_ 492 (by decide +kernel) rfl, List.forall_mem_cons.mpr ⟨tb_ 328 (by decide +kernel) rfl, List.forall_mem_cons.mpr ⟨tb_ 329 (by decide +kernel) rfl, List.forall_mem_cons.mpr ⟨tb_ 3 (by decide +kernel) rfl, fun _ h => absurd h List.not_mem_nil⟩⟩⟩⟩, u_Se_leastSum⟩)
set_option maxRecDepth 100000 in
theorem cv_Ca_66 (E : sx_E) {cc : ByteArray} (C : sx_C SC g_tbl "SiteChoice$Calendar" cc E) (rm : Room) (hR : rm.frames + 1 ≤ (sx_R E).frames ∧ 8 + (2 + 11) + rm.locals ≤ (sx_R E).locals) : CallW (sx_R E) (sx_s E) (sx_a E) "SiteChoice$Calendar" "SiteChoice$Search" 66 y_Se_leastSum c_Se_leastSum 2 (some .long) w_Se_leastSum rm rm.cells rm.slots 1 := cwV 1 C.2.2.2.2.1 gv_Ca_66 rfl rfl rfl (by decide +kernel) hR
set_option maxRecDepth 100000 in
theorem gv_Ca_70 : GoodIn g_tbl (wsV "SiteChoice$Calendar" 70 "SiteChoice$Calendar" y_Ca_withNext w_Ca_withNext) := gi_ (List.forall_mem_append.mpr ⟨List.forall_mem_cons.mpr ⟨tb_ 498 (by decide +kernel) rfl, List.forall_mem_cons.mpr ⟨tb_ 500 (by decide +kernel) rfl, List.forall_mem_cons.mpr ⟨List.mem_filter.mpr ⟨List.mem_append_left _ (by decide +kernel), rfl⟩, List.forall_mem_cons.mpr ⟨tb_ 6 (by decide +kernel) rfl, fun _ h => absurd h List.not_mem_nil⟩⟩⟩⟩, u_Ca_withNext⟩)
set_option maxRecDepth 100000 in
theorem cv_Ca_70 (E : sx_E) {cc : ByteArray} (C : sx_C SC g_tbl "SiteChoice$Calendar" cc E) (rm : Room) (hR : rm.frames + 1 ≤ (sx_R E).frames ∧ 8 + (6 + 11) + rm.locals ≤ (sx_R E).locals) : CallW (sx_R E) (sx_s E) (sx_a E) "SiteChoice$Calendar" "SiteChoice$Calendar" 70 y_Ca_withNext c_Ca_withNext 6 (some .long) w_Ca_withNext rm rm.cells rm.slots 4 := cwV 4 C.2.2.2.2.1 gv_Ca_70 rfl rfl rfl (by decide +kernel) hR
set_option maxRecDepth 100000 in
theorem gv_He_29 : GoodIn g_tbl (wsV "SiteChoice$HeldPlan" 29 "SiteChoice$HeldPlan" y_He_placeFor w_He_placeFor) := gi_ (List.forall_mem_append.mpr ⟨List.forall_mem_cons.mpr ⟨tb_ 414 (by decide +kernel) rfl, List.forall_mem_cons.mpr ⟨tb_ 415 (by decide +kernel) rfl, List.forall_mem_cons.mpr ⟨tb_ 416 (by decide +kernel) rfl, List.forall_mem_cons.mpr ⟨tb_ 4 (by decide +kernel) rfl, fun _ h => absurd h List.not_mem_nil⟩⟩⟩⟩, u_He_placeFor⟩)
set_option maxRecDepth 100000 in
theorem cv_He_29 (E : sx_E) {cc : ByteArray} (C : sx_C SC g_tbl "SiteChoice$HeldPlan" cc E) (rm : Room) (hR : rm.frames + 1 ≤ (sx_R E).frames ∧ 8 + (2 + 11) + rm.locals ≤ (sx_R E).locals) : CallW (sx_R E) (sx_s E) (sx_a E) "SiteChoice$HeldPlan" "SiteChoice$HeldPlan" 29 y_He_placeFor c_He_placeFor 2 (some .int) w_He_placeFor rm rm.cells rm.slots 1 := cwV 1 C.2.2.2.2.1 gv_He_29 rfl rfl rfl (by decide +kernel) hR
set_option maxRecDepth 100000 in
theorem gv_He_39 : GoodIn g_tbl (wsV "SiteChoice$HeldPlan" 39 "SiteChoice$Town" y_To_hasPlace w_To_hasPlace) := gi_ (List.forall_mem_append.mpr ⟨List.forall_mem_cons.mpr ⟨tb_ 467 (by decide +kernel) rfl, List.forall_mem_cons.mpr ⟨tb_ 250 (by decide +kernel) rfl, List.forall_mem_cons.mpr ⟨tb_ 251 (by decide +kernel) rfl, List.forall_mem_cons.mpr ⟨tb_ 2 (by decide +kernel) rfl, fun _ h => absurd h List.not_mem_nil⟩⟩⟩⟩, u_To_hasPlace⟩)
set_option maxRecDepth 100000 in
theorem cv_He_39 (E : sx_E) {cc : ByteArray} (C : sx_C SC g_tbl "SiteChoice$HeldPlan" cc E) (rm : Room) (hR : rm.frames + 1 ≤ (sx_R E).frames ∧ 8 + (2 + 11) + rm.locals ≤ (sx_R E).locals) : CallW (sx_R E) (sx_s E) (sx_a E) "SiteChoice$HeldPlan" "SiteChoice$Town" 39 y_To_hasPlace c_To_hasPlace 2 (some .boolean) w_To_hasPlace rm rm.cells rm.slots 1 := cwV 1 C.2.2.2.2.1 gv_He_39 rfl rfl rfl (by decide +kernel) hR
set_option maxRecDepth 100000 in
theorem gv_He_54 : GoodIn g_tbl (wsV "SiteChoice$HeldPlan" 54 "SiteChoice$HeldPlan" y_He_exchange w_He_exchange) := gi_ (List.forall_mem_append.mpr ⟨List.forall_mem_cons.mpr ⟨tb_ 462 (by decide +kernel) rfl, List.forall_mem_cons.mpr ⟨tb_ 464 (by decide +kernel) rfl, List.forall_mem_cons.mpr ⟨List.mem_filter.mpr ⟨List.mem_append_left _ (by decide +kernel), rfl⟩, List.forall_mem_cons.mpr ⟨tb_ 4 (by decide +kernel) rfl, fun _ h => absurd h List.not_mem_nil⟩⟩⟩⟩, u_He_exchange⟩)
set_option maxRecDepth 100000 in
theorem cv_He_54 (E : sx_E) {cc : ByteArray} (C : sx_C SC g_tbl "SiteChoice$HeldPlan" cc E) (rm : Room) (hR : rm.frames + 1 ≤ (sx_R E).frames ∧ 8 + (8 + 11) + rm.locals ≤ (sx_R E).locals) : CallW (sx_R E) (sx_s E) (sx_a E) "SiteChoice$HeldPlan" "SiteChoice$HeldPlan" 54 y_He_exchange c_He_exchange 8 (some .boolean) w_He_exchange rm rm.cells rm.slots 4 := cwV 4 C.2.2.2.2.1 gv_He_54 rfl rfl rfl (by decide +kernel) hR
set_option maxRecDepth 100000 in
theorem gv_He_58 : GoodIn g_tbl (wsV "SiteChoice$HeldPlan" 58 "SiteChoice$Town" y_To_reach w_To_reach) := gi_ (List.forall_mem_append.mpr ⟨List.forall_mem_cons.mpr ⟨tb_ 466 (by decide +kernel) rfl, List.forall_mem_cons.mpr ⟨tb_ 285 (by decide +kernel) rfl, List.forall_mem_cons.mpr ⟨tb_ 286 (by decide +kernel) rfl, List.forall_mem_cons.mpr ⟨tb_ 2 (by decide +kernel) rfl, fun _ h => absurd h List.not_mem_nil⟩⟩⟩⟩, u_To_reach⟩)
set_option maxRecDepth 100000 in
theorem cv_He_58 (E : sx_E) {cc : ByteArray} (C : sx_C SC g_tbl "SiteChoice$HeldPlan" cc E) (rm : Room) (hR : rm.frames + 1 ≤ (sx_R E).frames ∧ 8 + (5 + 11) + rm.locals ≤ (sx_R E).locals) : CallW (sx_R E) (sx_s E) (sx_a E) "SiteChoice$HeldPlan" "SiteChoice$Town" 58 y_To_reach c_To_reach 5 (some .long) w_To_reach rm rm.cells rm.slots 2 := cwV 2 C.2.2.2.2.1 gv_He_58 rfl rfl rfl (by decide +kernel) hR
set_option maxRecDepth 100000 in
theorem gv_He_64 : GoodIn g_tbl (wsV "SiteChoice$HeldPlan" 64 "SiteChoice$Search" y_Se_isPlan w_Se_isPlan) := gi_ (List.forall_mem_append.mpr ⟨List.forall_mem_cons.mpr ⟨tb_ 469 (by decide +kernel) rfl, List.forall_mem_cons.mpr ⟨tb_ 470 (by decide +kernel) rfl, List.forall_mem_cons.mpr ⟨tb_ 471 (by decide +kernel) rfl, List.forall_mem_cons.mpr ⟨tb_ 3 (by decide +kernel) rfl, fun _ h => absurd h List.not_mem_nil⟩⟩⟩⟩, u_Se_isPlan⟩)
set_option maxRecDepth 100000 in
theorem cv_He_64 (E : sx_E) {cc : ByteArray} (C : sx_C SC g_tbl "SiteChoice$HeldPlan" cc E) (rm : Room) (hR : rm.frames + 1 ≤ (sx_R E).frames ∧ 8 + (5 + 11) + rm.locals ≤ (sx_R E).locals) : CallW (sx_R E) (sx_s E) (sx_a E) "SiteChoice$HeldPlan" "SiteChoice$Search" 64 y_Se_isPlan c_Se_isPlan 5 (some .boolean) w_Se_isPlan rm rm.cells rm.slots 1 := cwV 1 C.2.2.2.2.1 gv_He_64 rfl rfl rfl (by decide +kernel) hR
set_option maxRecDepth 100000 in
theorem gv_Se_67 : GoodIn g_tbl (wsV "SiteChoice$Search" 67 "SiteChoice$Search" y_Se_loadNeedsOfYear w_Se_loadNeedsOfYear) := gi_ (List.forall_mem_append.mpr ⟨List.forall_mem_cons.mpr ⟨tb_ 306 (by decide +kernel) rfl, List.forall_mem_cons.mpr ⟨tb_ 307 (by decide +kernel) rfl, List.forall_mem_cons.mpr ⟨tb_ 308 (by decide +kernel) rfl, List.forall_mem_cons.mpr ⟨tb_ 3 (by decide +kernel) rfl, fun _ h => absurd h List.not_mem_nil⟩⟩⟩⟩, u_Se_loadNeedsOfYear⟩)
set_option maxRecDepth 100000 in
theorem cv_Se_67 (E : sx_E) {cc : ByteArray} (C : sx_C SC g_tbl "SiteChoice$Search" cc E) (rm : Room) (hR : rm.frames + 1 ≤ (sx_R E).frames ∧ 8 + (4 + 11) + rm.locals ≤ (sx_R E).locals) : CallW (sx_R E) (sx_s E) (sx_a E) "SiteChoice$Search" "SiteChoice$Search" 67 y_Se_loadNeedsOfYear c_Se_loadNeedsOfYear 4 none w_Se_loadNeedsOfYear rm rm.cells rm.slots 2 := cwV 2 C.2.2.2.2.1 gv_Se_67 rfl rfl rfl (by decide +kernel) hR
set_option maxRecDepth 100000 in
theorem gv_Se_74 : GoodIn g_tbl (wsV "SiteChoice$Search" 74 "SiteChoice$Town" y_To_reach w_To_reach) := gi_ (List.forall_mem_append.mpr ⟨List.forall_mem_cons.mpr ⟨tb_ 312 (by decide +kernel) rfl, List.forall_mem_cons.mpr ⟨tb_ 285 (by decide +kernel) rfl, List.forall_mem_cons.mpr ⟨tb_ 286 (by decide +kernel) rfl, List.forall_mem_cons.mpr ⟨tb_ 2 (by decide +kernel) rfl, fun _ h => absurd h List.not_mem_nil⟩⟩⟩⟩, u_To_reach⟩)
set_option maxRecDepth 100000 in
theorem cv_Se_74 (E : sx_E) {cc : ByteArray} (C : sx_C SC g_tbl "SiteChoice$Search" cc E) (rm : Room) (hR : rm.frames + 1 ≤ (sx_R E).frames ∧ 8 + (5 + 11) + rm.locals ≤ (sx_R E).locals) : CallW (sx_R E) (sx_s E) (sx_a E) "SiteChoice$Search" "SiteChoice$Town" 74 y_To_reach c_To_reach 5 (some .long) w_To_reach rm rm.cells rm.slots 2 := cwV 2 C.2.2.2.2.1 gv_Se_74 rfl rfl rfl (by decide +kernel) hR
set_option maxRecDepth 100000 in
theorem gv_Se_78 : GoodIn g_tbl (wsV "SiteChoice$Search" 78 "SiteChoice$Search" y_Se_loadSets w_Se_loadSets) := gi_ (List.forall_mem_append.mpr ⟨List.forall_mem_cons.mpr ⟨tb_ 313 (by decide +kernel) rfl, List.forall_mem_cons.mpr ⟨tb_ 315 (by decide +kernel) rfl, List.forall_mem_cons.mpr ⟨List.mem_filter.mpr ⟨List.mem_append_left _ (by decide +kernel), rfl⟩, List.forall_mem_cons.mpr ⟨tb_ 3 (by decide +kernel) rfl, fun _ h => absurd h List.not_mem_nil⟩⟩⟩⟩, u_Se_loadSets⟩)
set_option maxRecDepth 100000 in
theorem cv_Se_78 (E : sx_E) {cc : ByteArray} (C : sx_C SC g_tbl "SiteChoice$Search" cc E) (rm : Room) (hR : rm.frames + 1 ≤ (sx_R E).frames ∧ 8 + (9 + 11) + rm.locals ≤ (sx_R E).locals) : CallW (sx_R E) (sx_s E) (sx_a E) "SiteChoice$Search" "SiteChoice$Search" 78 y_Se_loadSets c_Se_loadSets 9 none w_Se_loadSets rm rm.cells rm.slots 2 := cwV 2 C.2.2.2.2.1 gv_Se_78 rfl rfl rfl (by decide +kernel) hR
set_option maxRecDepth 100000 in
theorem gv_Se_84 : GoodIn g_tbl (va_wsS "SiteChoice$Search" 84 y_Un_isIn w_Un_isIn) := gi_ (List.forall_mem_append.mpr ⟨List.forall_mem_cons.mpr ⟨tb_ 388 (by decide +kernel) rfl, List.forall_mem_cons.mpr ⟨tb_ 389 (by decide +kernel) rfl, List.forall_mem_cons.mpr ⟨tb_ 5 (by decide +kernel) rfl, fun _ h => absurd h List.not_mem_nil⟩⟩⟩, u_Un_isIn⟩)
set_option maxRecDepth 100000 in
theorem cv_Se_84 (E : sx_E) {cc : ByteArray} (C : sx_C SC g_tbl "SiteChoice$Search" cc E) (rm : Room) (hR : rm.frames + 1 ≤ (sx_R E).frames ∧ 8 + (3 + 11) + rm.locals ≤ (sx_R E).locals) : CallB (sx_R E) (sx_s E) (sx_a E) "SiteChoice$Search" 84 y_Un_isIn c_Un_isIn 3 (some .boolean) w_Un_isIn rm rm.cells rm.slots 3 ∧ (Cond.static y_Un_isIn).before (sx_a E) (sx_s E) = true := va_cwS 3 C.2.2.2.2.1 gv_Se_84 rfl rfl rfl (by decide +kernel) hR
set_option maxRecDepth 100000 in
theorem gv_Se_99 : GoodIn g_tbl (va_wsS "SiteChoice$Search" 99 y_Se_isAnyTooNear w_Se_isAnyTooNear) := gi_ (List.forall_mem_append.mpr ⟨List.forall_mem_cons.mpr ⟨tb_ 317 (by decide +kernel) rfl, List.forall_mem_cons.mpr ⟨tb_ 318 (by decide +kernel) rfl, List.forall_mem_cons.mpr ⟨tb_ 3 (by decide +kernel) rfl, fun _ h => absurd h List.not_mem_nil⟩⟩⟩, u_Se_isAnyTooNear⟩)
set_option maxRecDepth 100000 in
theorem cv_Se_99 (E : sx_E) {cc : ByteArray} (C : sx_C SC g_tbl "SiteChoice$Search" cc E) (rm : Room) (hR : rm.frames + 1 ≤ (sx_R E).frames ∧ 8 + (4 + 11) + rm.locals ≤ (sx_R E).locals) : CallB (sx_R E) (sx_s E) (sx_a E) "SiteChoice$Search" 99 y_Se_isAnyTooNear c_Se_isAnyTooNear 4 (some .boolean) w_Se_isAnyTooNear rm rm.cells rm.slots 3 ∧ (Cond.static y_Se_isAnyTooNear).before (sx_a E) (sx_s E) = true := va_cwS 3 C.2.2.2.2.1 gv_Se_99 rfl rfl rfl (by decide +kernel) hR
set_option maxRecDepth 100000 in
theorem gv_Se_103 : GoodIn g_tbl (wsV "SiteChoice$Search" 103 "SiteChoice$Town" y_To_isTooNear w_To_isTooNear) := gi_ (List.forall_mem_append.mpr ⟨List.forall_mem_cons.mpr ⟨tb_ 320 (by decide +kernel) rfl, List.forall_mem_cons.mpr ⟨tb_ 321 (by decide +kernel) rfl, List.forall_mem_cons.mpr ⟨tb_ 322 (by decide +kernel) rfl, List.forall_mem_cons.mpr ⟨tb_ 2 (by decide +kernel) rfl, fun _ h => absurd h List.not_mem_nil⟩⟩⟩⟩, u_To_isTooNear⟩)
set_option maxRecDepth 100000 in
theorem cv_Se_103 (E : sx_E) {cc : ByteArray} (C : sx_C SC g_tbl "SiteChoice$Search" cc E) (rm : Room) (hR : rm.frames + 1 ≤ (sx_R E).frames ∧ 8 + (9 + 11) + rm.locals ≤ (sx_R E).locals) : CallW (sx_R E) (sx_s E) (sx_a E) "SiteChoice$Search" "SiteChoice$Town" 103 y_To_isTooNear c_To_isTooNear 9 (some .boolean) w_To_isTooNear rm rm.cells rm.slots 2 := cwV 2 C.2.2.2.2.1 gv_Se_103 rfl rfl rfl (by decide +kernel) hR
set_option maxRecDepth 100000 in
theorem gv_Se_107 : GoodIn g_tbl (wsV "SiteChoice$Search" 107 "SiteChoice$Search" y_Se_reckonLeastRest w_Se_reckonLeastRest) := gi_ (List.forall_mem_append.mpr ⟨List.forall_mem_cons.mpr ⟨tb_ 331 (by decide +kernel) rfl, List.forall_mem_cons.mpr ⟨tb_ 333 (by decide +kernel) rfl, List.forall_mem_cons.mpr ⟨List.mem_filter.mpr ⟨List.mem_append_left _ (by decide +kernel), rfl⟩, List.forall_mem_cons.mpr ⟨tb_ 3 (by decide +kernel) rfl, fun _ h => absurd h List.not_mem_nil⟩⟩⟩⟩, u_Se_reckonLeastRest⟩)
set_option maxRecDepth 100000 in
theorem cv_Se_107 (E : sx_E) {cc : ByteArray} (C : sx_C SC g_tbl "SiteChoice$Search" cc E) (rm : Room) (hR : rm.frames + 1 ≤ (sx_R E).frames ∧ 8 + (4 + 11) + rm.locals ≤ (sx_R E).locals) : CallW (sx_R E) (sx_s E) (sx_a E) "SiteChoice$Search" "SiteChoice$Search" 107 y_Se_reckonLeastRest c_Se_reckonLeastRest 4 (some .boolean) w_Se_reckonLeastRest rm rm.cells rm.slots 0 := cwV 0 C.2.2.2.2.1 gv_Se_107 rfl rfl rfl (by decide +kernel) hR
set_option maxRecDepth 100000 in
theorem gv_Se_117 : GoodIn g_tbl (va_wsS "SiteChoice$Search" 117 y_Ar_fill_ints w_Ar_fill_ints) := gi_ (List.forall_mem_append.mpr ⟨List.forall_mem_cons.mpr ⟨tb_ 346 (by decide +kernel) rfl, List.forall_mem_cons.mpr ⟨tb_ 347 (by decide +kernel) rfl, List.forall_mem_cons.mpr ⟨tb_ 8 (by decide +kernel) rfl, fun _ h => absurd h List.not_mem_nil⟩⟩⟩, u_Ar_fill_ints⟩)
set_option maxRecDepth 100000 in
theorem cv_Se_117 (E : sx_E) {cc : ByteArray} (C : sx_C SC g_tbl "SiteChoice$Search" cc E) (rm : Room) (hR : rm.frames + 1 ≤ (sx_R E).frames ∧ 8 + (4 + 11) + rm.locals ≤ (sx_R E).locals) : CallB (sx_R E) (sx_s E) (sx_a E) "SiteChoice$Search" 117 y_Ar_fill_ints c_Ar_fill_ints 4 none w_Ar_fill_ints rm rm.cells rm.slots 2 ∧ (Cond.static y_Ar_fill_ints).before (sx_a E) (sx_s E) = true := va_cwS 2 C.2.2.2.2.1 gv_Se_117 rfl rfl rfl (by decide +kernel) hR
set_option maxRecDepth 100000 in
theorem gv_Se_123 : GoodIn g_tbl (wsV "SiteChoice$Search" 123 "SiteChoice$Search" y_Se_give w_Se_give) := gi_ (List.forall_mem_append.mpr ⟨List.forall_mem_cons.mpr ⟨tb_ 349 (by decide +kernel) rfl, List.forall_mem_cons.mpr ⟨tb_ 351 (by decide +kernel) rfl, List.forall_mem_cons.mpr ⟨List.mem_filter.mpr ⟨List.mem_append_left _ (by decide +kernel), rfl⟩, List.forall_mem_cons.mpr ⟨tb_ 3 (by decide +kernel) rfl, fun _ h => absurd h List.not_mem_nil⟩⟩⟩⟩, u_Se_give⟩)
set_option maxRecDepth 100000 in
theorem cv_Se_123 (E : sx_E) {cc : ByteArray} (C : sx_C SC g_tbl "SiteChoice$Search" cc E) (rm : Room) (hR : rm.frames + 1 ≤ (sx_R E).frames ∧ 8 + (6 + 11) + rm.locals ≤ (sx_R E).locals) : CallW (sx_R E) (sx_s E) (sx_a E) "SiteChoice$Search" "SiteChoice$Search" 123 y_Se_give c_Se_give 6 none w_Se_give rm rm.cells rm.slots 3 := cwV 3 C.2.2.2.2.1 gv_Se_123 rfl rfl rfl (by decide +kernel) hR
set_option maxRecDepth 100000 in
theorem gv_Se_127 : GoodIn g_tbl (wsV "SiteChoice$Search" 127 "SiteChoice$Search" y_Se_leastSum w_Se_leastSum) := gi_ (List.forall_mem_append.mpr ⟨List.forall_mem_cons.mpr ⟨tb_ 395 (by decide +kernel) rfl, List.forall_mem_cons.mpr ⟨tb_ 328 (by decide +kernel) rfl, List.forall_mem_cons.mpr ⟨tb_ 329 (by decide +kernel) rfl, List.forall_mem_cons.mpr ⟨tb_ 3 (by decide +kernel) rfl, fun _ h => absurd h List.not_mem_nil⟩⟩⟩⟩, u_Se_leastSum⟩)
set_option maxRecDepth 100000 in
theorem cv_Se_127 (E : sx_E) {cc : ByteArray} (C : sx_C SC g_tbl "SiteChoice$Search" cc E) (rm : Room) (hR : rm.frames + 1 ≤ (sx_R E).frames ∧ 8 + (2 + 11) + rm.locals ≤ (sx_R E).locals) : CallW (sx_R E) (sx_s E) (sx_a E) "SiteChoice$Search" "SiteChoice$Search" 127 y_Se_leastSum c_Se_leastSum 2 (some .long) w_Se_leastSum rm rm.cells rm.slots 1 := cwV 1 C.2.2.2.2.1 gv_Se_127 rfl rfl rfl (by decide +kernel) hR
set_option maxRecDepth 100000 in
theorem gv_Se_131 : GoodIn g_tbl (wsV "SiteChoice$Search" 131 "SiteChoice$Search" y_Se_nearestUsable w_Se_nearestUsable) := gi_ (List.forall_mem_append.mpr ⟨List.forall_mem_cons.mpr ⟨tb_ 335 (by decide +kernel) rfl, List.forall_mem_cons.mpr ⟨tb_ 337 (by decide +kernel) rfl, List.forall_mem_cons.mpr ⟨List.mem_filter.mpr ⟨List.mem_append_left _ (by decide +kernel), rfl⟩, List.forall_mem_cons.mpr ⟨tb_ 3 (by decide +kernel) rfl, fun _ h => absurd h List.not_mem_nil⟩⟩⟩⟩, u_Se_nearestUsable⟩)
set_option maxRecDepth 100000 in
theorem cv_Se_131 (E : sx_E) {cc : ByteArray} (C : sx_C SC g_tbl "SiteChoice$Search" cc E) (rm : Room) (hR : rm.frames + 1 ≤ (sx_R E).frames ∧ 8 + (7 + 11) + rm.locals ≤ (sx_R E).locals) : CallW (sx_R E) (sx_s E) (sx_a E) "SiteChoice$Search" "SiteChoice$Search" 131 y_Se_nearestUsable c_Se_nearestUsable 7 (some .long) w_Se_nearestUsable rm rm.cells rm.slots 1 := cwV 1 C.2.2.2.2.1 gv_Se_131 rfl rfl rfl (by decide +kernel) hR
set_option maxRecDepth 100000 in
theorem gv_Se_134 : GoodIn g_tbl (wsV "SiteChoice$Search" 134 "SiteChoice$Search" y_Se_isUsable w_Se_isUsable) := gi_ (List.forall_mem_append.mpr ⟨List.forall_mem_cons.mpr ⟨tb_ 339 (by decide +kernel) rfl, List.forall_mem_cons.mpr ⟨tb_ 341 (by decide +kernel) rfl, List.forall_mem_cons.mpr ⟨List.mem_filter.mpr ⟨List.mem_append_left _ (by decide +kernel), rfl⟩, List.forall_mem_cons.mpr ⟨tb_ 3 (by decide +kernel) rfl, fun _ h => absurd h List.not_mem_nil⟩⟩⟩⟩, u_Se_isUsable⟩)
set_option maxRecDepth 100000 in
theorem cv_Se_134 (E : sx_E) {cc : ByteArray} (C : sx_C SC g_tbl "SiteChoice$Search" cc E) (rm : Room) (hR : rm.frames + 1 ≤ (sx_R E).frames ∧ 8 + (2 + 11) + rm.locals ≤ (sx_R E).locals) : CallW (sx_R E) (sx_s E) (sx_a E) "SiteChoice$Search" "SiteChoice$Search" 134 y_Se_isUsable c_Se_isUsable 2 (some .boolean) w_Se_isUsable rm rm.cells rm.slots 1 := cwV 1 C.2.2.2.2.1 gv_Se_134 rfl rfl rfl (by decide +kernel) hR
set_option maxRecDepth 100000 in
theorem gv_Se_138 : GoodIn g_tbl (wsV "SiteChoice$Search" 138 "SiteChoice$Search" y_Se_nextWithNeed w_Se_nextWithNeed) := gi_ (List.forall_mem_append.mpr ⟨List.forall_mem_cons.mpr ⟨tb_ 353 (by decide +kernel) rfl, List.forall_mem_cons.mpr ⟨tb_ 355 (by decide +kernel) rfl, List.forall_mem_cons.mpr ⟨List.mem_filter.mpr ⟨List.mem_append_left _ (by decide +kernel), rfl⟩, List.forall_mem_cons.mpr ⟨tb_ 3 (by decide +kernel) rfl, fun _ h => absurd h List.not_mem_nil⟩⟩⟩⟩, u_Se_nextWithNeed⟩)
set_option maxRecDepth 100000 in
theorem cv_Se_138 (E : sx_E) {cc : ByteArray} (C : sx_C SC g_tbl "SiteChoice$Search" cc E) (rm : Room) (hR : rm.frames + 1 ≤ (sx_R E).frames ∧ 8 + (3 + 11) + rm.locals ≤ (sx_R E).locals) : CallW (sx_R E) (sx_s E) (sx_a E) "SiteChoice$Search" "SiteChoice$Search" 138 y_Se_nextWithNeed c_Se_nextWithNeed 3 (some .int) w_Se_nextWithNeed rm rm.cells rm.slots 1 := cwV 1 C.2.2.2.2.1 gv_Se_138 rfl rfl rfl (by decide +kernel) hR
set_option maxRecDepth 100000 in
theorem gv_Se_142 : GoodIn g_tbl (wsV "SiteChoice$Search" 142 "SiteChoice$Search" y_Se_keepIfBetter w_Se_keepIfBetter) := gi_ (List.forall_mem_append.mpr ⟨List.forall_mem_cons.mpr ⟨tb_ 357 (by decide +kernel) rfl, List.forall_mem_cons.mpr ⟨tb_ 359 (by decide +kernel) rfl, List.forall_mem_cons.mpr ⟨List.mem_filter.mpr ⟨List.mem_append_left _ (by decide +kernel), rfl⟩, List.forall_mem_cons.mpr ⟨tb_ 3 (by decide +kernel) rfl, fun _ h => absurd h List.not_mem_nil⟩⟩⟩⟩, u_Se_keepIfBetter⟩)
set_option maxRecDepth 100000 in
theorem cv_Se_142 (E : sx_E) {cc : ByteArray} (C : sx_C SC g_tbl "SiteChoice$Search" cc E) (rm : Room) (hR : rm.frames + 1 ≤ (sx_R E).frames ∧ 8 + (3 + 11) + rm.locals ≤ (sx_R E).locals) : CallW (sx_R E) (sx_s E) (sx_a E) "SiteChoice$Search" "SiteChoice$Search" 142 y_Se_keepIfBetter c_Se_keepIfBetter 3 none w_Se_keepIfBetter rm rm.cells rm.slots 1 := cwV 1 C.2.2.2.2.1 gv_Se_142 rfl rfl rfl (by decide +kernel) hR
set_option maxRecDepth 100000 in
theorem gv_Se_146 : GoodIn g_tbl (wsV "SiteChoice$Search" 146 "SiteChoice$Search" y_Se_isHopeless w_Se_isHopeless) := gi_ (List.forall_mem_append.mpr ⟨List.forall_mem_cons.mpr ⟨tb_ 361 (by decide +kernel) rfl, List.forall_mem_cons.mpr ⟨tb_ 363 (by decide +kernel) rfl, List.forall_mem_cons.mpr ⟨List.mem_filter.mpr ⟨List.mem_append_left _ (by decide +kernel), rfl⟩, List.forall_mem_cons.mpr ⟨tb_ 3 (by decide +kernel) rfl, fun _ h => absurd h List.not_mem_nil⟩⟩⟩⟩, u_Se_isHopeless⟩)
set_option maxRecDepth 100000 in
theorem cv_Se_146 (E : sx_E) {cc : ByteArray} (C : sx_C SC g_tbl "SiteChoice$Search" cc E) (rm : Room) (hR : rm.frames + 1 ≤ (sx_R E).frames ∧ 8 + (3 + 11) + rm.locals ≤ (sx_R E).locals) : CallW (sx_R E) (sx_s E) (sx_a E) "SiteChoice$Search" "SiteChoice$Search" 146 y_Se_isHopeless c_Se_isHopeless 3 (some .boolean) w_Se_isHopeless rm rm.cells rm.slots 1 := cwV 1 C.2.2.2.2.1 gv_Se_146 rfl rfl rfl (by decide +kernel) hR
set_option maxRecDepth 100000 in
theorem gv_Se_150 : GoodIn g_tbl (wsV "SiteChoice$Search" 150 "SiteChoice$Search" y_Se_giveEachPlace w_Se_giveEachPlace) := gi_ (List.forall_mem_append.mpr ⟨List.forall_mem_cons.mpr ⟨tb_ 365 (by decide +kernel) rfl, List.forall_mem_cons.mpr ⟨tb_ 367 (by decide +kernel) rfl, List.forall_mem_cons.mpr ⟨List.mem_filter.mpr ⟨List.mem_append_left _ (by decide +kernel), rfl⟩, List.forall_mem_cons.mpr ⟨tb_ 3 (by decide +kernel) rfl, fun _ h => absurd h List.not_mem_nil⟩⟩⟩⟩, u_Se_giveEachPlace⟩)
set_option maxRecDepth 100000 in
theorem cv_Se_150 (E : sx_E) {cc : ByteArray} (C : sx_C SC g_tbl "SiteChoice$Search" cc E) (rm : Room) (hR : rm.frames + 1 ≤ (sx_R E).frames ∧ 8 + (7 + 11) + rm.locals ≤ (sx_R E).locals) : CallW (sx_R E) (sx_s E) (sx_a E) "SiteChoice$Search" "SiteChoice$Search" 150 y_Se_giveEachPlace c_Se_giveEachPlace 7 none w_Se_giveEachPlace rm rm.cells rm.slots 3 := cwV 3 C.2.2.2.2.1 gv_Se_150 rfl rfl rfl (by decide +kernel) hR
set_option maxRecDepth 100000 in
theorem gv_Se_153 : GoodIn g_tbl (wsV "SiteChoice$Search" 153 "SiteChoice$Search" y_Se_canTake w_Se_canTake) := gi_ (List.forall_mem_append.mpr ⟨List.forall_mem_cons.mpr ⟨tb_ 369 (by decide +kernel) rfl, List.forall_mem_cons.mpr ⟨tb_ 371 (by decide +kernel) rfl, List.forall_mem_cons.mpr ⟨List.mem_filter.mpr ⟨List.mem_append_left _ (by decide +kernel), rfl⟩, List.forall_mem_cons.mpr ⟨tb_ 3 (by decide +kernel) rfl, fun _ h => absurd h List.not_mem_nil⟩⟩⟩⟩, u_Se_canTake⟩)
set_option maxRecDepth 100000 in
theorem cv_Se_153 (E : sx_E) {cc : ByteArray} (C : sx_C SC g_tbl "SiteChoice$Search" cc E) (rm : Room) (hR : rm.frames + 1 ≤ (sx_R E).frames ∧ 8 + (3 + 11) + rm.locals ≤ (sx_R E).locals) : CallW (sx_R E) (sx_s E) (sx_a E) "SiteChoice$Search" "SiteChoice$Search" 153 y_Se_canTake c_Se_canTake 3 (some .boolean) w_Se_canTake rm rm.cells rm.slots 2 := cwV 2 C.2.2.2.2.1 gv_Se_153 rfl rfl rfl (by decide +kernel) hR
set_option maxRecDepth 100000 in
theorem gv_To_59 : GoodIn g_tbl (va_wsS "SiteChoice$Town" 59 y_Ar_fill_longs w_Ar_fill_longs) := gi_ (List.forall_mem_append.mpr ⟨List.forall_mem_cons.mpr ⟨tb_ 227 (by decide +kernel) rfl, List.forall_mem_cons.mpr ⟨tb_ 228 (by decide +kernel) rfl, List.forall_mem_cons.mpr ⟨tb_ 8 (by decide +kernel) rfl, fun _ h => absurd h List.not_mem_nil⟩⟩⟩, u_Ar_fill_longs⟩)
set_option maxRecDepth 100000 in
theorem cv_To_59 (E : sx_E) {cc : ByteArray} (C : sx_C SC g_tbl "SiteChoice$Town" cc E) (rm : Room) (hR : rm.frames + 1 ≤ (sx_R E).frames ∧ 8 + (5 + 11) + rm.locals ≤ (sx_R E).locals) : CallB (sx_R E) (sx_s E) (sx_a E) "SiteChoice$Town" 59 y_Ar_fill_longs c_Ar_fill_longs 5 none w_Ar_fill_longs rm rm.cells rm.slots 2 ∧ (Cond.static y_Ar_fill_longs).before (sx_a E) (sx_s E) = true := va_cwS 2 C.2.2.2.2.1 gv_To_59 rfl rfl rfl (by decide +kernel) hR
set_option maxRecDepth 100000 in
theorem gv_To_65 : GoodIn g_tbl (wsV "SiteChoice$Town" 65 "SiteChoice$Town" y_To_hasDistrict w_To_hasDistrict) := gi_ (List.forall_mem_append.mpr ⟨List.forall_mem_cons.mpr ⟨tb_ 288 (by decide +kernel) rfl, List.forall_mem_cons.mpr ⟨tb_ 246 (by decide +kernel) rfl, List.forall_mem_cons.mpr ⟨tb_ 247 (by decide +kernel) rfl, List.forall_mem_cons.mpr ⟨tb_ 2 (by decide +kernel) rfl, fun _ h => absurd h List.not_mem_nil⟩⟩⟩⟩, u_To_hasDistrict⟩)
set_option maxRecDepth 100000 in
theorem cv_To_65 (E : sx_E) {cc : ByteArray} (C : sx_C SC g_tbl "SiteChoice$Town" cc E) (rm : Room) (hR : rm.frames + 1 ≤ (sx_R E).frames ∧ 8 + (2 + 11) + rm.locals ≤ (sx_R E).locals) : CallW (sx_R E) (sx_s E) (sx_a E) "SiteChoice$Town" "SiteChoice$Town" 65 y_To_hasDistrict c_To_hasDistrict 2 (some .boolean) w_To_hasDistrict rm rm.cells rm.slots 1 := cwV 1 C.2.2.2.2.1 gv_To_65 rfl rfl rfl (by decide +kernel) hR
set_option maxRecDepth 100000 in
theorem gv_To_69 : GoodIn g_tbl (wsV "SiteChoice$Town" 69 "SiteChoice$Town" y_To_hasPlace w_To_hasPlace) := gi_ (List.forall_mem_append.mpr ⟨List.forall_mem_cons.mpr ⟨tb_ 289 (by decide +kernel) rfl, List.forall_mem_cons.mpr ⟨tb_ 250 (by decide +kernel) rfl, List.forall_mem_cons.mpr ⟨tb_ 251 (by decide +kernel) rfl, List.forall_mem_cons.mpr ⟨tb_ 2 (by decide +kernel) rfl, fun _ h => absurd h List.not_mem_nil⟩⟩⟩⟩, u_To_hasPlace⟩)
set_option maxRecDepth 100000 in
theorem cv_To_69 (E : sx_E) {cc : ByteArray} (C : sx_C SC g_tbl "SiteChoice$Town" cc E) (rm : Room) (hR : rm.frames + 1 ≤ (sx_R E).frames ∧ 8 + (2 + 11) + rm.locals ≤ (sx_R E).locals) : CallW (sx_R E) (sx_s E) (sx_a E) "SiteChoice$Town" "SiteChoice$Town" 69 y_To_hasPlace c_To_hasPlace 2 (some .boolean) w_To_hasPlace rm rm.cells rm.slots 1 := cwV 1 C.2.2.2.2.1 gv_To_69 rfl rfl rfl (by decide +kernel) hR
set_option maxRecDepth 100000 in
theorem gv_To_72 : GoodIn g_tbl (wsV "SiteChoice$Town" 72 "SiteChoice$Town" y_To_countReached w_To_countReached) := gi_ (List.forall_mem_append.mpr ⟨List.forall_mem_cons.mpr ⟨tb_ 280 (by decide +kernel) rfl, List.forall_mem_cons.mpr ⟨tb_ 282 (by decide +kernel) rfl, List.forall_mem_cons.mpr ⟨List.mem_filter.mpr ⟨List.mem_append_left _ (by decide +kernel), rfl⟩, List.forall_mem_cons.mpr ⟨tb_ 2 (by decide +kernel) rfl, fun _ h => absurd h List.not_mem_nil⟩⟩⟩⟩, u_To_countReached⟩)
set_option maxRecDepth 100000 in
theorem cv_To_72 (E : sx_E) {cc : ByteArray} (C : sx_C SC g_tbl "SiteChoice$Town" cc E) (rm : Room) (hR : rm.frames + 1 ≤ (sx_R E).frames ∧ 8 + (5 + 11) + rm.locals ≤ (sx_R E).locals) : CallW (sx_R E) (sx_s E) (sx_a E) "SiteChoice$Town" "SiteChoice$Town" 72 y_To_countReached c_To_countReached 5 (some .long) w_To_countReached rm rm.cells rm.slots 1 := cwV 1 C.2.2.2.2.1 gv_To_72 rfl rfl rfl (by decide +kernel) hR
set_option maxRecDepth 100000 in
theorem gv_To_76 : GoodIn g_tbl (wsV "SiteChoice$Town" 76 "SiteChoice$Town" y_To_reach w_To_reach) := gi_ (List.forall_mem_append.mpr ⟨List.forall_mem_cons.mpr ⟨tb_ 284 (by decide +kernel) rfl, List.forall_mem_cons.mpr ⟨tb_ 285 (by decide +kernel) rfl, List.forall_mem_cons.mpr ⟨tb_ 286 (by decide +kernel) rfl, List.forall_mem_cons.mpr ⟨tb_ 2 (by decide +kernel) rfl, fun _ h => absurd h List.not_mem_nil⟩⟩⟩⟩, u_To_reach⟩)
set_option maxRecDepth 100000 in
theorem cv_To_76 (E : sx_E) {cc : ByteArray} (C : sx_C SC g_tbl "SiteChoice$Town" cc E) (rm : Room) (hR : rm.frames + 1 ≤ (sx_R E).frames ∧ 8 + (5 + 11) + rm.locals ≤ (sx_R E).locals) : CallW (sx_R E) (sx_s E) (sx_a E) "SiteChoice$Town" "SiteChoice$Town" 76 y_To_reach c_To_reach 5 (some .long) w_To_reach rm rm.cells rm.slots 2 := cwV 2 C.2.2.2.2.1 gv_To_76 rfl rfl rfl (by decide +kernel) hR
set_option maxRecDepth 100000 in
theorem gv_Un_24 : GoodIn g_tbl (va_wsS "SiteChoice$Unserved" 24 y_In_bitCount w_In_bitCount) := gi_ (List.forall_mem_append.mpr ⟨List.forall_mem_cons.mpr ⟨tb_ 378 (by decide +kernel) rfl, List.forall_mem_cons.mpr ⟨tb_ 379 (by decide +kernel) rfl, List.forall_mem_cons.mpr ⟨tb_ 11 (by decide +kernel) rfl, fun _ h => absurd h List.not_mem_nil⟩⟩⟩, u_In_bitCount⟩)
set_option maxRecDepth 100000 in
theorem cv_Un_24 (E : sx_E) {cc : ByteArray} (C : sx_C SC g_tbl "SiteChoice$Unserved" cc E) (rm : Room) (hR : rm.frames + 1 ≤ (sx_R E).frames ∧ 8 + (1 + 11) + rm.locals ≤ (sx_R E).locals) : CallB (sx_R E) (sx_s E) (sx_a E) "SiteChoice$Unserved" 24 y_In_bitCount c_In_bitCount 1 (some .int) w_In_bitCount rm rm.cells rm.slots 1 ∧ (Cond.static y_In_bitCount).before (sx_a E) (sx_s E) = true := va_cwS 1 C.2.2.2.2.1 gv_Un_24 rfl rfl rfl (by decide +kernel) hR
set_option maxRecDepth 100000 in
theorem gv_Un_30 : GoodIn g_tbl (wsV "SiteChoice$Unserved" 30 "SiteChoice$Search" y_Se_loadNeedsOfSet w_Se_loadNeedsOfSet) := gi_ (List.forall_mem_append.mpr ⟨List.forall_mem_cons.mpr ⟨tb_ 384 (by decide +kernel) rfl, List.forall_mem_cons.mpr ⟨tb_ 385 (by decide +kernel) rfl, List.forall_mem_cons.mpr ⟨tb_ 386 (by decide +kernel) rfl, List.forall_mem_cons.mpr ⟨tb_ 3 (by decide +kernel) rfl, fun _ h => absurd h List.not_mem_nil⟩⟩⟩⟩, u_Se_loadNeedsOfSet⟩)
set_option maxRecDepth 100000 in
theorem cv_Un_30 (E : sx_E) {cc : ByteArray} (C : sx_C SC g_tbl "SiteChoice$Unserved" cc E) (rm : Room) (hR : rm.frames + 1 ≤ (sx_R E).frames ∧ 8 + (4 + 11) + rm.locals ≤ (sx_R E).locals) : CallW (sx_R E) (sx_s E) (sx_a E) "SiteChoice$Unserved" "SiteChoice$Search" 30 y_Se_loadNeedsOfSet c_Se_loadNeedsOfSet 4 none w_Se_loadNeedsOfSet rm rm.cells rm.slots 2 := cwV 2 C.2.2.2.2.1 gv_Un_30 rfl rfl rfl (by decide +kernel) hR
set_option maxRecDepth 100000 in
theorem gv_Un_36 : GoodIn g_tbl (wsV "SiteChoice$Unserved" 36 "SiteChoice$Search" y_Se_hasPlan w_Se_hasPlan) := gi_ (List.forall_mem_append.mpr ⟨List.forall_mem_cons.mpr ⟨tb_ 391 (by decide +kernel) rfl, List.forall_mem_cons.mpr ⟨tb_ 392 (by decide +kernel) rfl, List.forall_mem_cons.mpr ⟨tb_ 393 (by decide +kernel) rfl, List.forall_mem_cons.mpr ⟨tb_ 3 (by decide +kernel) rfl, fun _ h => absurd h List.not_mem_nil⟩⟩⟩⟩, u_Se_hasPlan⟩)
set_option maxRecDepth 100000 in
theorem cv_Un_36 (E : sx_E) {cc : ByteArray} (C : sx_C SC g_tbl "SiteChoice$Unserved" cc E) (rm : Room) (hR : rm.frames + 1 ≤ (sx_R E).frames ∧ 8 + (3 + 11) + rm.locals ≤ (sx_R E).locals) : CallW (sx_R E) (sx_s E) (sx_a E) "SiteChoice$Unserved" "SiteChoice$Search" 36 y_Se_hasPlan c_Se_hasPlan 3 (some .boolean) w_Se_hasPlan rm rm.cells rm.slots 0 := cwV 0 C.2.2.2.2.1 gv_Un_36 rfl rfl rfl (by decide +kernel) hR
set_option maxRecDepth 100000 in
theorem gv_Un_40 : GoodIn g_tbl (wsV "SiteChoice$Unserved" 40 "SiteChoice$Unserved" y_Un_list w_Un_list) := gi_ (List.forall_mem_append.mpr ⟨List.forall_mem_cons.mpr ⟨tb_ 396 (by decide +kernel) rfl, List.forall_mem_cons.mpr ⟨tb_ 398 (by decide +kernel) rfl, List.forall_mem_cons.mpr ⟨List.mem_filter.mpr ⟨List.mem_append_left _ (by decide +kernel), rfl⟩, List.forall_mem_cons.mpr ⟨tb_ 5 (by decide +kernel) rfl, fun _ h => absurd h List.not_mem_nil⟩⟩⟩⟩, u_Un_list⟩)
set_option maxRecDepth 100000 in
theorem cv_Un_40 (E : sx_E) {cc : ByteArray} (C : sx_C SC g_tbl "SiteChoice$Unserved" cc E) (rm : Room) (hR : rm.frames + 1 ≤ (sx_R E).frames ∧ 8 + (4 + 11) + rm.locals ≤ (sx_R E).locals) : CallW (sx_R E) (sx_s E) (sx_a E) "SiteChoice$Unserved" "SiteChoice$Unserved" 40 y_Un_list c_Un_list 4 none w_Un_list rm rm.cells rm.slots 2 := cwV 2 C.2.2.2.2.1 gv_Un_40 rfl rfl rfl (by decide +kernel) hR
set_option maxRecDepth 100000 in
theorem gv_Un_44 : GoodIn g_tbl (va_wsS "SiteChoice$Unserved" 44 y_Un_isIn w_Un_isIn) := gi_ (List.forall_mem_append.mpr ⟨List.forall_mem_cons.mpr ⟨tb_ 400 (by decide +kernel) rfl, List.forall_mem_cons.mpr ⟨tb_ 389 (by decide +kernel) rfl, List.forall_mem_cons.mpr ⟨tb_ 5 (by decide +kernel) rfl, fun _ h => absurd h List.not_mem_nil⟩⟩⟩, u_Un_isIn⟩)
set_option maxRecDepth 100000 in
theorem cv_Un_44 (E : sx_E) {cc : ByteArray} (C : sx_C SC g_tbl "SiteChoice$Unserved" cc E) (rm : Room) (hR : rm.frames + 1 ≤ (sx_R E).frames ∧ 8 + (3 + 11) + rm.locals ≤ (sx_R E).locals) : CallB (sx_R E) (sx_s E) (sx_a E) "SiteChoice$Unserved" 44 y_Un_isIn c_Un_isIn 3 (some .boolean) w_Un_isIn rm rm.cells rm.slots 3 ∧ (Cond.static y_Un_isIn).before (sx_a E) (sx_s E) = true := va_cwS 3 C.2.2.2.2.1 gv_Un_44 rfl rfl rfl (by decide +kernel) hR
set_option maxRecDepth 100000 in
theorem cv_La_9 (E : sx_E) {cc : ByteArray} (C : sx_C SC g_tbl "SiteChoiceLaw" cc E) (rm : Room) (hR : rm.frames + 1 ≤ (sx_R E).frames ∧ 8 + (1 + 11) + rm.locals ≤ (sx_R E).locals) : CallB (sx_R E) (sx_s E) (sx_a E) "SiteChoiceLaw" 9 y_Si_init c_Si_init 1 none w_Si_init rm rm.cells rm.slots 0 ∧ y_Si_init.name = "<init>" ∧ (Cond.instanceMethod y_Si_init).before (sx_a E) (sx_s E) = true := cwI 0 C.2.2.2.2.1 (gi_ u_Si_init) rfl rfl rfl (C.2.2.2.2.1 _ (tb_ 1 (by decide +kernel) rfl)) (C.2.2.2.2.1 _ (tb_ 14 (by decide +kernel) rfl)) (C.2.2.2.2.1 _ (tb_ 15 (by decide +kernel) rfl)) rfl (by decide +kernel) hR
set_option maxRecDepth 100000 in
theorem cv_La_12 (E : sx_E) {cc : ByteArray} (C : sx_C SC g_tbl "SiteChoiceLaw" cc E) (rm : Room) (hR : rm.frames + 1 ≤ (sx_R E).frames ∧ 8 + (2 + 11) + rm.locals ≤ (sx_R E).locals) : CallB (sx_R E) (sx_s E) (sx_a E) "SiteChoiceLaw" 12 y_Mo_init c_Mo_init 2 none w_Mo_init rm rm.cells rm.slots 0 ∧ y_Mo_init.name = "<init>" ∧ (Cond.instanceMethod y_Mo_init).before (sx_a E) (sx_s E) = true := cwI 0 C.2.2.2.2.1 (gi_ u_Mo_init) rfl rfl rfl (C.2.2.2.2.1 _ (tb_ 7 (by decide +kernel) rfl)) (C.2.2.2.2.1 _ (tb_ 520 (by decide +kernel) rfl)) (C.2.2.2.2.1 _ (tb_ 521 (by decide +kernel) rfl)) rfl (by decide +kernel) hR
set_option maxRecDepth 100000 in
theorem gv_La_15 : GoodIn g_tbl (wsV "SiteChoiceLaw" 15 "SiteChoice" y_Si_district w_Si_district) := gi_ (List.forall_mem_append.mpr ⟨List.forall_mem_cons.mpr ⟨tb_ 213 (by decide +kernel) rfl, List.forall_mem_cons.mpr ⟨tb_ 214 (by decide +kernel) rfl, List.forall_mem_cons.mpr ⟨tb_ 215 (by decide +kernel) rfl, List.forall_mem_cons.mpr ⟨tb_ 1 (by decide +kernel) rfl, fun _ h => absurd h List.not_mem_nil⟩⟩⟩⟩, u_Si_district⟩)
set_option maxRecDepth 100000 in
theorem cv_La_15 (E : sx_E) {cc : ByteArray} (C : sx_C SC g_tbl "SiteChoiceLaw" cc E) (rm : Room) (hR : rm.frames + 1 ≤ (sx_R E).frames ∧ 8 + (3 + 11) + rm.locals ≤ (sx_R E).locals) : CallW (sx_R E) (sx_s E) (sx_a E) "SiteChoiceLaw" "SiteChoice" 15 y_Si_district c_Si_district 3 (some .int) w_Si_district rm rm.cells rm.slots 1 := cwV 1 C.2.2.2.2.1 gv_La_15 rfl rfl rfl (by decide +kernel) hR
set_option maxRecDepth 100000 in
theorem gv_La_19 : GoodIn g_tbl (wsV "SiteChoiceLaw" 19 "SiteChoiceModel" y_Mo_district w_Mo_district) := gi_ (List.forall_mem_append.mpr ⟨List.forall_mem_cons.mpr ⟨tb_ 603 (by decide +kernel) rfl, List.forall_mem_cons.mpr ⟨tb_ 604 (by decide +kernel) rfl, List.forall_mem_cons.mpr ⟨tb_ 605 (by decide +kernel) rfl, List.forall_mem_cons.mpr ⟨tb_ 7 (by decide +kernel) rfl, fun _ h => absurd h List.not_mem_nil⟩⟩⟩⟩, u_Mo_district⟩)
set_option maxRecDepth 100000 in
theorem cv_La_19 (E : sx_E) {cc : ByteArray} (C : sx_C SC g_tbl "SiteChoiceLaw" cc E) (rm : Room) (hR : rm.frames + 1 ≤ (sx_R E).frames ∧ 8 + (3 + 11) + rm.locals ≤ (sx_R E).locals) : CallW (sx_R E) (sx_s E) (sx_a E) "SiteChoiceLaw" "SiteChoiceModel" 19 y_Mo_district c_Mo_district 3 (some .int) w_Mo_district rm rm.cells rm.slots 1 := cwV 1 C.2.2.2.2.1 gv_La_19 rfl rfl rfl (by decide +kernel) hR
set_option maxRecDepth 100000 in
theorem gv_La_20 : GoodIn g_tbl (wsV "SiteChoiceLaw" 20 "SiteChoice" y_Si_place w_Si_place) := gi_ (List.forall_mem_append.mpr ⟨List.forall_mem_cons.mpr ⟨tb_ 230 (by decide +kernel) rfl, List.forall_mem_cons.mpr ⟨tb_ 231 (by decide +kernel) rfl, List.forall_mem_cons.mpr ⟨tb_ 232 (by decide +kernel) rfl, List.forall_mem_cons.mpr ⟨tb_ 1 (by decide +kernel) rfl, fun _ h => absurd h List.not_mem_nil⟩⟩⟩⟩, u_Si_place⟩)
set_option maxRecDepth 100000 in
theorem cv_La_20 (E : sx_E) {cc : ByteArray} (C : sx_C SC g_tbl "SiteChoiceLaw" cc E) (rm : Room) (hR : rm.frames + 1 ≤ (sx_R E).frames ∧ 8 + (9 + 11) + rm.locals ≤ (sx_R E).locals) : CallW (sx_R E) (sx_s E) (sx_a E) "SiteChoiceLaw" "SiteChoice" 20 y_Si_place c_Si_place 9 (some .int) w_Si_place rm rm.cells rm.slots 4 := cwV 4 C.2.2.2.2.1 gv_La_20 rfl rfl rfl (by decide +kernel) hR
set_option maxRecDepth 100000 in
theorem gv_La_24 : GoodIn g_tbl (wsV "SiteChoiceLaw" 24 "SiteChoiceModel" y_Mo_place w_Mo_place) := gi_ (List.forall_mem_append.mpr ⟨List.forall_mem_cons.mpr ⟨tb_ 611 (by decide +kernel) rfl, List.forall_mem_cons.mpr ⟨tb_ 612 (by decide +kernel) rfl, List.forall_mem_cons.mpr ⟨tb_ 613 (by decide +kernel) rfl, List.forall_mem_cons.mpr ⟨tb_ 7 (by decide +kernel) rfl, fun _ h => absurd h List.not_mem_nil⟩⟩⟩⟩, u_Mo_place⟩)
set_option maxRecDepth 100000 in
theorem cv_La_24 (E : sx_E) {cc : ByteArray} (C : sx_C SC g_tbl "SiteChoiceLaw" cc E) (rm : Room) (hR : rm.frames + 1 ≤ (sx_R E).frames ∧ 8 + (9 + 11) + rm.locals ≤ (sx_R E).locals) : CallW (sx_R E) (sx_s E) (sx_a E) "SiteChoiceLaw" "SiteChoiceModel" 24 y_Mo_place c_Mo_place 9 (some .int) w_Mo_place rm rm.cells rm.slots 4 := cwV 4 C.2.2.2.2.1 gv_La_24 rfl rfl rfl (by decide +kernel) hR
set_option maxRecDepth 100000 in
theorem gv_La_25 : GoodIn g_tbl (wsV "SiteChoiceLaw" 25 "SiteChoice" y_Si_walk w_Si_walk) := gi_ (List.forall_mem_append.mpr ⟨List.forall_mem_cons.mpr ⟨tb_ 241 (by decide +kernel) rfl, List.forall_mem_cons.mpr ⟨tb_ 242 (by decide +kernel) rfl, List.forall_mem_cons.mpr ⟨tb_ 243 (by decide +kernel) rfl, List.forall_mem_cons.mpr ⟨tb_ 1 (by decide +kernel) rfl, fun _ h => absurd h List.not_mem_nil⟩⟩⟩⟩, u_Si_walk⟩)
set_option maxRecDepth 100000 in
theorem cv_La_25 (E : sx_E) {cc : ByteArray} (C : sx_C SC g_tbl "SiteChoiceLaw" cc E) (rm : Room) (hR : rm.frames + 1 ≤ (sx_R E).frames ∧ 8 + (5 + 11) + rm.locals ≤ (sx_R E).locals) : CallW (sx_R E) (sx_s E) (sx_a E) "SiteChoiceLaw" "SiteChoice" 25 y_Si_walk c_Si_walk 5 (some .boolean) w_Si_walk rm rm.cells rm.slots 3 := cwV 3 C.2.2.2.2.1 gv_La_25 rfl rfl rfl (by decide +kernel) hR
set_option maxRecDepth 100000 in
theorem gv_La_29 : GoodIn g_tbl (wsV "SiteChoiceLaw" 29 "SiteChoiceModel" y_Mo_walk w_Mo_walk) := gi_ (List.forall_mem_append.mpr ⟨List.forall_mem_cons.mpr ⟨tb_ 618 (by decide +kernel) rfl, List.forall_mem_cons.mpr ⟨tb_ 619 (by decide +kernel) rfl, List.forall_mem_cons.mpr ⟨tb_ 620 (by decide +kernel) rfl, List.forall_mem_cons.mpr ⟨tb_ 7 (by decide +kernel) rfl, fun _ h => absurd h List.not_mem_nil⟩⟩⟩⟩, u_Mo_walk⟩)
set_option maxRecDepth 100000 in
theorem cv_La_29 (E : sx_E) {cc : ByteArray} (C : sx_C SC g_tbl "SiteChoiceLaw" cc E) (rm : Room) (hR : rm.frames + 1 ≤ (sx_R E).frames ∧ 8 + (5 + 11) + rm.locals ≤ (sx_R E).locals) : CallW (sx_R E) (sx_s E) (sx_a E) "SiteChoiceLaw" "SiteChoiceModel" 29 y_Mo_walk c_Mo_walk 5 (some .boolean) w_Mo_walk rm rm.cells rm.slots 3 := cwV 3 C.2.2.2.2.1 gv_La_29 rfl rfl rfl (by decide +kernel) hR
set_option maxRecDepth 100000 in
theorem gv_La_30 : GoodIn g_tbl (wsV "SiteChoiceLaw" 30 "SiteChoice" y_Si_bar w_Si_bar) := gi_ (List.forall_mem_append.mpr ⟨List.forall_mem_cons.mpr ⟨tb_ 254 (by decide +kernel) rfl, List.forall_mem_cons.mpr ⟨tb_ 255 (by decide +kernel) rfl, List.forall_mem_cons.mpr ⟨tb_ 256 (by decide +kernel) rfl, List.forall_mem_cons.mpr ⟨tb_ 1 (by decide +kernel) rfl, fun _ h => absurd h List.not_mem_nil⟩⟩⟩⟩, u_Si_bar⟩)
set_option maxRecDepth 100000 in
theorem cv_La_30 (E : sx_E) {cc : ByteArray} (C : sx_C SC g_tbl "SiteChoiceLaw" cc E) (rm : Room) (hR : rm.frames + 1 ≤ (sx_R E).frames ∧ 8 + (2 + 11) + rm.locals ≤ (sx_R E).locals) : CallW (sx_R E) (sx_s E) (sx_a E) "SiteChoiceLaw" "SiteChoice" 30 y_Si_bar c_Si_bar 2 (some .boolean) w_Si_bar rm rm.cells rm.slots 1 := cwV 1 C.2.2.2.2.1 gv_La_30 rfl rfl rfl (by decide +kernel) hR
set_option maxRecDepth 100000 in
theorem gv_La_34 : GoodIn g_tbl (wsV "SiteChoiceLaw" 34 "SiteChoiceModel" y_Mo_bar w_Mo_bar) := gi_ (List.forall_mem_append.mpr ⟨List.forall_mem_cons.mpr ⟨tb_ 630 (by decide +kernel) rfl, List.forall_mem_cons.mpr ⟨tb_ 631 (by decide +kernel) rfl, List.forall_mem_cons.mpr ⟨tb_ 632 (by decide +kernel) rfl, List.forall_mem_cons.mpr ⟨tb_ 7 (by decide +kernel) rfl, fun _ h => absurd h List.not_mem_nil⟩⟩⟩⟩, u_Mo_bar⟩)
set_option maxRecDepth 100000 in
theorem cv_La_34 (E : sx_E) {cc : ByteArray} (C : sx_C SC g_tbl "SiteChoiceLaw" cc E) (rm : Room) (hR : rm.frames + 1 ≤ (sx_R E).frames ∧ 8 + (2 + 11) + rm.locals ≤ (sx_R E).locals) : CallW (sx_R E) (sx_s E) (sx_a E) "SiteChoiceLaw" "SiteChoiceModel" 34 y_Mo_bar c_Mo_bar 2 (some .boolean) w_Mo_bar rm rm.cells rm.slots 1 := cwV 1 C.2.2.2.2.1 gv_La_34 rfl rfl rfl (by decide +kernel) hR
set_option maxRecDepth 100000 in
theorem gv_La_35 : GoodIn g_tbl (wsV "SiteChoiceLaw" 35 "SiteChoice" y_Si_noise w_Si_noise) := gi_ (List.forall_mem_append.mpr ⟨List.forall_mem_cons.mpr ⟨tb_ 258 (by decide +kernel) rfl, List.forall_mem_cons.mpr ⟨tb_ 259 (by decide +kernel) rfl, List.forall_mem_cons.mpr ⟨tb_ 260 (by decide +kernel) rfl, List.forall_mem_cons.mpr ⟨tb_ 1 (by decide +kernel) rfl, fun _ h => absurd h List.not_mem_nil⟩⟩⟩⟩, u_Si_noise⟩)
set_option maxRecDepth 100000 in
theorem cv_La_35 (E : sx_E) {cc : ByteArray} (C : sx_C SC g_tbl "SiteChoiceLaw" cc E) (rm : Room) (hR : rm.frames + 1 ≤ (sx_R E).frames ∧ 8 + (4 + 11) + rm.locals ≤ (sx_R E).locals) : CallW (sx_R E) (sx_s E) (sx_a E) "SiteChoiceLaw" "SiteChoice" 35 y_Si_noise c_Si_noise 4 (some .boolean) w_Si_noise rm rm.cells rm.slots 2 := cwV 2 C.2.2.2.2.1 gv_La_35 rfl rfl rfl (by decide +kernel) hR
set_option maxRecDepth 100000 in
theorem gv_La_39 : GoodIn g_tbl (wsV "SiteChoiceLaw" 39 "SiteChoiceModel" y_Mo_noise w_Mo_noise) := gi_ (List.forall_mem_append.mpr ⟨List.forall_mem_cons.mpr ⟨tb_ 634 (by decide +kernel) rfl, List.forall_mem_cons.mpr ⟨tb_ 635 (by decide +kernel) rfl, List.forall_mem_cons.mpr ⟨tb_ 636 (by decide +kernel) rfl, List.forall_mem_cons.mpr ⟨tb_ 7 (by decide +kernel) rfl, fun _ h => absurd h List.not_mem_nil⟩⟩⟩⟩, u_Mo_noise⟩)
set_option maxRecDepth 100000 in
theorem cv_La_39 (E : sx_E) {cc : ByteArray} (C : sx_C SC g_tbl "SiteChoiceLaw" cc E) (rm : Room) (hR : rm.frames + 1 ≤ (sx_R E).frames ∧ 8 + (4 + 11) + rm.locals ≤ (sx_R E).locals) : CallW (sx_R E) (sx_s E) (sx_a E) "SiteChoiceLaw" "SiteChoiceModel" 39 y_Mo_noise c_Mo_noise 4 (some .boolean) w_Mo_noise rm rm.cells rm.slots 2 := cwV 2 C.2.2.2.2.1 gv_La_39 rfl rfl rfl (by decide +kernel) hR
set_option maxRecDepth 100000 in
theorem gv_La_40 : GoodIn g_tbl (wsV "SiteChoiceLaw" 40 "SiteChoice" y_Si_budget w_Si_budget) := gi_ (List.forall_mem_append.mpr ⟨List.forall_mem_cons.mpr ⟨tb_ 263 (by decide +kernel) rfl, List.forall_mem_cons.mpr ⟨tb_ 264 (by decide +kernel) rfl, List.forall_mem_cons.mpr ⟨tb_ 265 (by decide +kernel) rfl, List.forall_mem_cons.mpr ⟨tb_ 1 (by decide +kernel) rfl, fun _ h => absurd h List.not_mem_nil⟩⟩⟩⟩, u_Si_budget⟩)
set_option maxRecDepth 100000 in
theorem cv_La_40 (E : sx_E) {cc : ByteArray} (C : sx_C SC g_tbl "SiteChoiceLaw" cc E) (rm : Room) (hR : rm.frames + 1 ≤ (sx_R E).frames ∧ 8 + (3 + 11) + rm.locals ≤ (sx_R E).locals) : CallW (sx_R E) (sx_s E) (sx_a E) "SiteChoiceLaw" "SiteChoice" 40 y_Si_budget c_Si_budget 3 (some .boolean) w_Si_budget rm rm.cells rm.slots 1 := cwV 1 C.2.2.2.2.1 gv_La_40 rfl rfl rfl (by decide +kernel) hR
set_option maxRecDepth 100000 in
theorem gv_La_44 : GoodIn g_tbl (wsV "SiteChoiceLaw" 44 "SiteChoiceModel" y_Mo_budget w_Mo_budget) := gi_ (List.forall_mem_append.mpr ⟨List.forall_mem_cons.mpr ⟨tb_ 639 (by decide +kernel) rfl, List.forall_mem_cons.mpr ⟨tb_ 640 (by decide +kernel) rfl, List.forall_mem_cons.mpr ⟨tb_ 641 (by decide +kernel) rfl, List.forall_mem_cons.mpr ⟨tb_ 7 (by decide +kernel) rfl, fun _ h => absurd h List.not_mem_nil⟩⟩⟩⟩, u_Mo_budget⟩)
set_option maxRecDepth 100000 in
theorem cv_La_44 (E : sx_E) {cc : ByteArray} (C : sx_C SC g_tbl "SiteChoiceLaw" cc E) (rm : Room) (hR : rm.frames + 1 ≤ (sx_R E).frames ∧ 8 + (3 + 11) + rm.locals ≤ (sx_R E).locals) : CallW (sx_R E) (sx_s E) (sx_a E) "SiteChoiceLaw" "SiteChoiceModel" 44 y_Mo_budget c_Mo_budget 3 (some .boolean) w_Mo_budget rm rm.cells rm.slots 1 := cwV 1 C.2.2.2.2.1 gv_La_44 rfl rfl rfl (by decide +kernel) hR
set_option maxRecDepth 100000 in
theorem gv_La_45 : GoodIn g_tbl (wsV "SiteChoiceLaw" 45 "SiteChoice" y_Si_fair w_Si_fair) := gi_ (List.forall_mem_append.mpr ⟨List.forall_mem_cons.mpr ⟨tb_ 268 (by decide +kernel) rfl, List.forall_mem_cons.mpr ⟨tb_ 269 (by decide +kernel) rfl, List.forall_mem_cons.mpr ⟨tb_ 270 (by decide +kernel) rfl, List.forall_mem_cons.mpr ⟨tb_ 1 (by decide +kernel) rfl, fun _ h => absurd h List.not_mem_nil⟩⟩⟩⟩, u_Si_fair⟩)
set_option maxRecDepth 100000 in
theorem cv_La_45 (E : sx_E) {cc : ByteArray} (C : sx_C SC g_tbl "SiteChoiceLaw" cc E) (rm : Room) (hR : rm.frames + 1 ≤ (sx_R E).frames ∧ 8 + (4 + 11) + rm.locals ≤ (sx_R E).locals) : CallW (sx_R E) (sx_s E) (sx_a E) "SiteChoiceLaw" "SiteChoice" 45 y_Si_fair c_Si_fair 4 (some .boolean) w_Si_fair rm rm.cells rm.slots 2 := cwV 2 C.2.2.2.2.1 gv_La_45 rfl rfl rfl (by decide +kernel) hR
set_option maxRecDepth 100000 in
theorem gv_La_48 : GoodIn g_tbl (wsV "SiteChoiceLaw" 48 "SiteChoiceModel" y_Mo_fair w_Mo_fair) := gi_ (List.forall_mem_append.mpr ⟨List.forall_mem_cons.mpr ⟨tb_ 643 (by decide +kernel) rfl, List.forall_mem_cons.mpr ⟨tb_ 644 (by decide +kernel) rfl, List.forall_mem_cons.mpr ⟨tb_ 645 (by decide +kernel) rfl, List.forall_mem_cons.mpr ⟨tb_ 7 (by decide +kernel) rfl, fun _ h => absurd h List.not_mem_nil⟩⟩⟩⟩, u_Mo_fair⟩)
set_option maxRecDepth 100000 in
theorem cv_La_48 (E : sx_E) {cc : ByteArray} (C : sx_C SC g_tbl "SiteChoiceLaw" cc E) (rm : Room) (hR : rm.frames + 1 ≤ (sx_R E).frames ∧ 8 + (4 + 11) + rm.locals ≤ (sx_R E).locals) : CallW (sx_R E) (sx_s E) (sx_a E) "SiteChoiceLaw" "SiteChoiceModel" 48 y_Mo_fair c_Mo_fair 4 (some .boolean) w_Mo_fair rm rm.cells rm.slots 2 := cwV 2 C.2.2.2.2.1 gv_La_48 rfl rfl rfl (by decide +kernel) hR
set_option maxRecDepth 100000 in
theorem gv_La_49 : GoodIn g_tbl (wsV "SiteChoiceLaw" 49 "SiteChoice" y_Si_ways w_Si_ways) := gi_ (List.forall_mem_append.mpr ⟨List.forall_mem_cons.mpr ⟨tb_ 272 (by decide +kernel) rfl, List.forall_mem_cons.mpr ⟨tb_ 273 (by decide +kernel) rfl, List.forall_mem_cons.mpr ⟨tb_ 274 (by decide +kernel) rfl, List.forall_mem_cons.mpr ⟨tb_ 1 (by decide +kernel) rfl, fun _ h => absurd h List.not_mem_nil⟩⟩⟩⟩, u_Si_ways⟩)
set_option maxRecDepth 100000 in
theorem cv_La_49 (E : sx_E) {cc : ByteArray} (C : sx_C SC g_tbl "SiteChoiceLaw" cc E) (rm : Room) (hR : rm.frames + 1 ≤ (sx_R E).frames ∧ 8 + (1 + 11) + rm.locals ≤ (sx_R E).locals) : CallW (sx_R E) (sx_s E) (sx_a E) "SiteChoiceLaw" "SiteChoice" 49 y_Si_ways c_Si_ways 1 (some .long) w_Si_ways rm rm.cells rm.slots 0 := cwV 0 C.2.2.2.2.1 gv_La_49 rfl rfl rfl (by decide +kernel) hR
set_option maxRecDepth 100000 in
theorem gv_La_53 : GoodIn g_tbl (wsV "SiteChoiceLaw" 53 "SiteChoiceModel" y_Mo_ways w_Mo_ways) := gi_ (List.forall_mem_append.mpr ⟨List.forall_mem_cons.mpr ⟨tb_ 647 (by decide +kernel) rfl, List.forall_mem_cons.mpr ⟨tb_ 648 (by decide +kernel) rfl, List.forall_mem_cons.mpr ⟨tb_ 649 (by decide +kernel) rfl, List.forall_mem_cons.mpr ⟨tb_ 7 (by decide +kernel) rfl, fun _ h => absurd h List.not_mem_nil⟩⟩⟩⟩, u_Mo_ways⟩)
set_option maxRecDepth 100000 in
theorem cv_La_53 (E : sx_E) {cc : ByteArray} (C : sx_C SC g_tbl "SiteChoiceLaw" cc E) (rm : Room) (hR : rm.frames + 1 ≤ (sx_R E).frames ∧ 8 + (7 + 11) + rm.locals ≤ (sx_R E).locals) : CallW (sx_R E) (sx_s E) (sx_a E) "SiteChoiceLaw" "SiteChoiceModel" 53 y_Mo_ways c_Mo_ways 7 (some .long) w_Mo_ways rm rm.cells rm.slots 0 := cwV 0 C.2.2.2.2.1 gv_La_53 rfl rfl rfl (by decide +kernel) hR
set_option maxRecDepth 100000 in
theorem gv_La_54 : GoodIn g_tbl (wsV "SiteChoiceLaw" 54 "SiteChoice" y_Si_run w_Si_run) := gi_ (List.forall_mem_append.mpr ⟨List.forall_mem_cons.mpr ⟨tb_ 290 (by decide +kernel) rfl, List.forall_mem_cons.mpr ⟨tb_ 291 (by decide +kernel) rfl, List.forall_mem_cons.mpr ⟨tb_ 292 (by decide +kernel) rfl, List.forall_mem_cons.mpr ⟨tb_ 1 (by decide +kernel) rfl, fun _ h => absurd h List.not_mem_nil⟩⟩⟩⟩, u_Si_run⟩)
set_option maxRecDepth 100000 in
theorem cv_La_54 (E : sx_E) {cc : ByteArray} (C : sx_C SC g_tbl "SiteChoiceLaw" cc E) (rm : Room) (hR : rm.frames + 1 ≤ (sx_R E).frames ∧ 8 + (5 + 11) + rm.locals ≤ (sx_R E).locals) : CallW (sx_R E) (sx_s E) (sx_a E) "SiteChoiceLaw" "SiteChoice" 54 y_Si_run c_Si_run 5 (some .int) w_Si_run rm rm.cells rm.slots 1 := cwV 1 C.2.2.2.2.1 gv_La_54 rfl rfl rfl (by decide +kernel) hR
set_option maxRecDepth 100000 in
theorem gv_La_57 : GoodIn g_tbl (wsV "SiteChoiceLaw" 57 "SiteChoiceModel" y_Mo_run w_Mo_run) := gi_ (List.forall_mem_append.mpr ⟨List.forall_mem_cons.mpr ⟨tb_ 655 (by decide +kernel) rfl, List.forall_mem_cons.mpr ⟨tb_ 656 (by decide +kernel) rfl, List.forall_mem_cons.mpr ⟨tb_ 657 (by decide +kernel) rfl, List.forall_mem_cons.mpr ⟨tb_ 7 (by decide +kernel) rfl, fun _ h => absurd h List.not_mem_nil⟩⟩⟩⟩, u_Mo_run⟩)
set_option maxRecDepth 100000 in
theorem cv_La_57 (E : sx_E) {cc : ByteArray} (C : sx_C SC g_tbl "SiteChoiceLaw" cc E) (rm : Room) (hR : rm.frames + 1 ≤ (sx_R E).frames ∧ 8 + (6 + 11) + rm.locals ≤ (sx_R E).locals) : CallW (sx_R E) (sx_s E) (sx_a E) "SiteChoiceLaw" "SiteChoiceModel" 57 y_Mo_run c_Mo_run 6 (some .int) w_Mo_run rm rm.cells rm.slots 1 := cwV 1 C.2.2.2.2.1 gv_La_57 rfl rfl rfl (by decide +kernel) hR
set_option maxRecDepth 100000 in
theorem gv_La_58 : GoodIn g_tbl (wsV "SiteChoiceLaw" 58 "SiteChoice" y_Si_chosen w_Si_chosen) := gi_ (List.forall_mem_append.mpr ⟨List.forall_mem_cons.mpr ⟨tb_ 406 (by decide +kernel) rfl, List.forall_mem_cons.mpr ⟨tb_ 407 (by decide +kernel) rfl, List.forall_mem_cons.mpr ⟨tb_ 408 (by decide +kernel) rfl, List.forall_mem_cons.mpr ⟨tb_ 1 (by decide +kernel) rfl, fun _ h => absurd h List.not_mem_nil⟩⟩⟩⟩, u_Si_chosen⟩)
set_option maxRecDepth 100000 in
theorem cv_La_58 (E : sx_E) {cc : ByteArray} (C : sx_C SC g_tbl "SiteChoiceLaw" cc E) (rm : Room) (hR : rm.frames + 1 ≤ (sx_R E).frames ∧ 8 + (2 + 11) + rm.locals ≤ (sx_R E).locals) : CallW (sx_R E) (sx_s E) (sx_a E) "SiteChoiceLaw" "SiteChoice" 58 y_Si_chosen c_Si_chosen 2 (some .boolean) w_Si_chosen rm rm.cells rm.slots 1 := cwV 1 C.2.2.2.2.1 gv_La_58 rfl rfl rfl (by decide +kernel) hR
set_option maxRecDepth 100000 in
theorem gv_La_61 : GoodIn g_tbl (wsV "SiteChoiceLaw" 61 "SiteChoiceModel" y_Mo_chosen w_Mo_chosen) := gi_ (List.forall_mem_append.mpr ⟨List.forall_mem_cons.mpr ⟨tb_ 714 (by decide +kernel) rfl, List.forall_mem_cons.mpr ⟨tb_ 715 (by decide +kernel) rfl, List.forall_mem_cons.mpr ⟨tb_ 716 (by decide +kernel) rfl, List.forall_mem_cons.mpr ⟨tb_ 7 (by decide +kernel) rfl, fun _ h => absurd h List.not_mem_nil⟩⟩⟩⟩, u_Mo_chosen⟩)
set_option maxRecDepth 100000 in
theorem cv_La_61 (E : sx_E) {cc : ByteArray} (C : sx_C SC g_tbl "SiteChoiceLaw" cc E) (rm : Room) (hR : rm.frames + 1 ≤ (sx_R E).frames ∧ 8 + (4 + 11) + rm.locals ≤ (sx_R E).locals) : CallW (sx_R E) (sx_s E) (sx_a E) "SiteChoiceLaw" "SiteChoiceModel" 61 y_Mo_chosen c_Mo_chosen 4 (some .boolean) w_Mo_chosen rm rm.cells rm.slots 1 := cwV 1 C.2.2.2.2.1 gv_La_61 rfl rfl rfl (by decide +kernel) hR
set_option maxRecDepth 100000 in
theorem gv_La_62 : GoodIn g_tbl (wsV "SiteChoiceLaw" 62 "SiteChoice" y_Si_of w_Si_of) := gi_ (List.forall_mem_append.mpr ⟨List.forall_mem_cons.mpr ⟨tb_ 418 (by decide +kernel) rfl, List.forall_mem_cons.mpr ⟨tb_ 419 (by decide +kernel) rfl, List.forall_mem_cons.mpr ⟨tb_ 420 (by decide +kernel) rfl, List.forall_mem_cons.mpr ⟨tb_ 1 (by decide +kernel) rfl, fun _ h => absurd h List.not_mem_nil⟩⟩⟩⟩, u_Si_of⟩)
set_option maxRecDepth 100000 in
theorem cv_La_62 (E : sx_E) {cc : ByteArray} (C : sx_C SC g_tbl "SiteChoiceLaw" cc E) (rm : Room) (hR : rm.frames + 1 ≤ (sx_R E).frames ∧ 8 + (2 + 11) + rm.locals ≤ (sx_R E).locals) : CallW (sx_R E) (sx_s E) (sx_a E) "SiteChoiceLaw" "SiteChoice" 62 y_Si_of c_Si_of 2 (some .int) w_Si_of rm rm.cells rm.slots 1 := cwV 1 C.2.2.2.2.1 gv_La_62 rfl rfl rfl (by decide +kernel) hR
set_option maxRecDepth 100000 in
theorem gv_La_66 : GoodIn g_tbl (wsV "SiteChoiceLaw" 66 "SiteChoiceModel" y_Mo_of w_Mo_of) := gi_ (List.forall_mem_append.mpr ⟨List.forall_mem_cons.mpr ⟨tb_ 718 (by decide +kernel) rfl, List.forall_mem_cons.mpr ⟨tb_ 719 (by decide +kernel) rfl, List.forall_mem_cons.mpr ⟨tb_ 720 (by decide +kernel) rfl, List.forall_mem_cons.mpr ⟨tb_ 7 (by decide +kernel) rfl, fun _ h => absurd h List.not_mem_nil⟩⟩⟩⟩, u_Mo_of⟩)
set_option maxRecDepth 100000 in
theorem cv_La_66 (E : sx_E) {cc : ByteArray} (C : sx_C SC g_tbl "SiteChoiceLaw" cc E) (rm : Room) (hR : rm.frames + 1 ≤ (sx_R E).frames ∧ 8 + (2 + 11) + rm.locals ≤ (sx_R E).locals) : CallW (sx_R E) (sx_s E) (sx_a E) "SiteChoiceLaw" "SiteChoiceModel" 66 y_Mo_of c_Mo_of 2 (some .int) w_Mo_of rm rm.cells rm.slots 1 := cwV 1 C.2.2.2.2.1 gv_La_66 rfl rfl rfl (by decide +kernel) hR
set_option maxRecDepth 100000 in
theorem gv_La_67 : GoodIn g_tbl (wsV "SiteChoiceLaw" 67 "SiteChoice" y_Si_sum w_Si_sum) := gi_ (List.forall_mem_append.mpr ⟨List.forall_mem_cons.mpr ⟨tb_ 423 (by decide +kernel) rfl, List.forall_mem_cons.mpr ⟨tb_ 424 (by decide +kernel) rfl, List.forall_mem_cons.mpr ⟨tb_ 425 (by decide +kernel) rfl, List.forall_mem_cons.mpr ⟨tb_ 1 (by decide +kernel) rfl, fun _ h => absurd h List.not_mem_nil⟩⟩⟩⟩, u_Si_sum⟩)
set_option maxRecDepth 100000 in
theorem cv_La_67 (E : sx_E) {cc : ByteArray} (C : sx_C SC g_tbl "SiteChoiceLaw" cc E) (rm : Room) (hR : rm.frames + 1 ≤ (sx_R E).frames ∧ 8 + (1 + 11) + rm.locals ≤ (sx_R E).locals) : CallW (sx_R E) (sx_s E) (sx_a E) "SiteChoiceLaw" "SiteChoice" 67 y_Si_sum c_Si_sum 1 (some .long) w_Si_sum rm rm.cells rm.slots 0 := cwV 0 C.2.2.2.2.1 gv_La_67 rfl rfl rfl (by decide +kernel) hR
set_option maxRecDepth 100000 in
theorem gv_La_70 : GoodIn g_tbl (wsV "SiteChoiceLaw" 70 "SiteChoiceModel" y_Mo_sum w_Mo_sum) := gi_ (List.forall_mem_append.mpr ⟨List.forall_mem_cons.mpr ⟨tb_ 722 (by decide +kernel) rfl, List.forall_mem_cons.mpr ⟨tb_ 723 (by decide +kernel) rfl, List.forall_mem_cons.mpr ⟨tb_ 724 (by decide +kernel) rfl, List.forall_mem_cons.mpr ⟨tb_ 7 (by decide +kernel) rfl, fun _ h => absurd h List.not_mem_nil⟩⟩⟩⟩, u_Mo_sum⟩)
set_option maxRecDepth 100000 in
theorem cv_La_70 (E : sx_E) {cc : ByteArray} (C : sx_C SC g_tbl "SiteChoiceLaw" cc E) (rm : Room) (hR : rm.frames + 1 ≤ (sx_R E).frames ∧ 8 + (1 + 11) + rm.locals ≤ (sx_R E).locals) : CallW (sx_R E) (sx_s E) (sx_a E) "SiteChoiceLaw" "SiteChoiceModel" 70 y_Mo_sum c_Mo_sum 1 (some .long) w_Mo_sum rm rm.cells rm.slots 0 := cwV 0 C.2.2.2.2.1 gv_La_70 rfl rfl rfl (by decide +kernel) hR
set_option maxRecDepth 100000 in
theorem gv_La_71 : GoodIn g_tbl (wsV "SiteChoiceLaw" 71 "SiteChoice" y_Si_bound w_Si_bound) := gi_ (List.forall_mem_append.mpr ⟨List.forall_mem_cons.mpr ⟨tb_ 427 (by decide +kernel) rfl, List.forall_mem_cons.mpr ⟨tb_ 428 (by decide +kernel) rfl, List.forall_mem_cons.mpr ⟨tb_ 429 (by decide +kernel) rfl, List.forall_mem_cons.mpr ⟨tb_ 1 (by decide +kernel) rfl, fun _ h => absurd h List.not_mem_nil⟩⟩⟩⟩, u_Si_bound⟩)
set_option maxRecDepth 100000 in
theorem cv_La_71 (E : sx_E) {cc : ByteArray} (C : sx_C SC g_tbl "SiteChoiceLaw" cc E) (rm : Room) (hR : rm.frames + 1 ≤ (sx_R E).frames ∧ 8 + (1 + 11) + rm.locals ≤ (sx_R E).locals) : CallW (sx_R E) (sx_s E) (sx_a E) "SiteChoiceLaw" "SiteChoice" 71 y_Si_bound c_Si_bound 1 (some .long) w_Si_bound rm rm.cells rm.slots 0 := cwV 0 C.2.2.2.2.1 gv_La_71 rfl rfl rfl (by decide +kernel) hR
set_option maxRecDepth 100000 in
theorem gv_La_74 : GoodIn g_tbl (wsV "SiteChoiceLaw" 74 "SiteChoiceModel" y_Mo_bound w_Mo_bound) := gi_ (List.forall_mem_append.mpr ⟨List.forall_mem_cons.mpr ⟨tb_ 726 (by decide +kernel) rfl, List.forall_mem_cons.mpr ⟨tb_ 727 (by decide +kernel) rfl, List.forall_mem_cons.mpr ⟨tb_ 728 (by decide +kernel) rfl, List.forall_mem_cons.mpr ⟨tb_ 7 (by decide +kernel) rfl, fun _ h => absurd h List.not_mem_nil⟩⟩⟩⟩, u_Mo_bound⟩)
set_option maxRecDepth 100000 in
theorem cv_La_74 (E : sx_E) {cc : ByteArray} (C : sx_C SC g_tbl "SiteChoiceLaw" cc E) (rm : Room) (hR : rm.frames + 1 ≤ (sx_R E).frames ∧ 8 + (9 + 11) + rm.locals ≤ (sx_R E).locals) : CallW (sx_R E) (sx_s E) (sx_a E) "SiteChoiceLaw" "SiteChoiceModel" 74 y_Mo_bound c_Mo_bound 9 (some .long) w_Mo_bound rm rm.cells rm.slots 0 := cwV 0 C.2.2.2.2.1 gv_La_74 rfl rfl rfl (by decide +kernel) hR
set_option maxRecDepth 100000 in
theorem gv_La_75 : GoodIn g_tbl (wsV "SiteChoiceLaw" 75 "SiteChoice" y_Si_proved w_Si_proved) := gi_ (List.forall_mem_append.mpr ⟨List.forall_mem_cons.mpr ⟨tb_ 435 (by decide +kernel) rfl, List.forall_mem_cons.mpr ⟨tb_ 436 (by decide +kernel) rfl, List.forall_mem_cons.mpr ⟨tb_ 437 (by decide +kernel) rfl, List.forall_mem_cons.mpr ⟨tb_ 1 (by decide +kernel) rfl, fun _ h => absurd h List.not_mem_nil⟩⟩⟩⟩, u_Si_proved⟩)
set_option maxRecDepth 100000 in
theorem cv_La_75 (E : sx_E) {cc : ByteArray} (C : sx_C SC g_tbl "SiteChoiceLaw" cc E) (rm : Room) (hR : rm.frames + 1 ≤ (sx_R E).frames ∧ 8 + (1 + 11) + rm.locals ≤ (sx_R E).locals) : CallW (sx_R E) (sx_s E) (sx_a E) "SiteChoiceLaw" "SiteChoice" 75 y_Si_proved c_Si_proved 1 (some .boolean) w_Si_proved rm rm.cells rm.slots 0 := cwV 0 C.2.2.2.2.1 gv_La_75 rfl rfl rfl (by decide +kernel) hR
set_option maxRecDepth 100000 in
theorem gv_La_79 : GoodIn g_tbl (wsV "SiteChoiceLaw" 79 "SiteChoiceModel" y_Mo_proved w_Mo_proved) := gi_ (List.forall_mem_append.mpr ⟨List.forall_mem_cons.mpr ⟨tb_ 730 (by decide +kernel) rfl, List.forall_mem_cons.mpr ⟨tb_ 731 (by decide +kernel) rfl, List.forall_mem_cons.mpr ⟨tb_ 732 (by decide +kernel) rfl, List.forall_mem_cons.mpr ⟨tb_ 7 (by decide +kernel) rfl, fun _ h => absurd h List.not_mem_nil⟩⟩⟩⟩, u_Mo_proved⟩)
set_option maxRecDepth 100000 in
theorem cv_La_79 (E : sx_E) {cc : ByteArray} (C : sx_C SC g_tbl "SiteChoiceLaw" cc E) (rm : Room) (hR : rm.frames + 1 ≤ (sx_R E).frames ∧ 8 + (1 + 11) + rm.locals ≤ (sx_R E).locals) : CallW (sx_R E) (sx_s E) (sx_a E) "SiteChoiceLaw" "SiteChoiceModel" 79 y_Mo_proved c_Mo_proved 1 (some .boolean) w_Mo_proved rm rm.cells rm.slots 0 := cwV 0 C.2.2.2.2.1 gv_La_79 rfl rfl rfl (by decide +kernel) hR
set_option maxRecDepth 100000 in
theorem gv_La_80 : GoodIn g_tbl (wsV "SiteChoiceLaw" 80 "SiteChoice" y_Si_clash w_Si_clash) := gi_ (List.forall_mem_append.mpr ⟨List.forall_mem_cons.mpr ⟨tb_ 439 (by decide +kernel) rfl, List.forall_mem_cons.mpr ⟨tb_ 440 (by decide +kernel) rfl, List.forall_mem_cons.mpr ⟨tb_ 441 (by decide +kernel) rfl, List.forall_mem_cons.mpr ⟨tb_ 1 (by decide +kernel) rfl, fun _ h => absurd h List.not_mem_nil⟩⟩⟩⟩, u_Si_clash⟩)
set_option maxRecDepth 100000 in
theorem cv_La_80 (E : sx_E) {cc : ByteArray} (C : sx_C SC g_tbl "SiteChoiceLaw" cc E) (rm : Room) (hR : rm.frames + 1 ≤ (sx_R E).frames ∧ 8 + (2 + 11) + rm.locals ≤ (sx_R E).locals) : CallW (sx_R E) (sx_s E) (sx_a E) "SiteChoiceLaw" "SiteChoice" 80 y_Si_clash c_Si_clash 2 (some .int) w_Si_clash rm rm.cells rm.slots 1 := cwV 1 C.2.2.2.2.1 gv_La_80 rfl rfl rfl (by decide +kernel) hR
set_option maxRecDepth 100000 in
theorem gv_La_83 : GoodIn g_tbl (wsV "SiteChoiceLaw" 83 "SiteChoiceModel" y_Mo_clash w_Mo_clash) := gi_ (List.forall_mem_append.mpr ⟨List.forall_mem_cons.mpr ⟨tb_ 734 (by decide +kernel) rfl, List.forall_mem_cons.mpr ⟨tb_ 735 (by decide +kernel) rfl, List.forall_mem_cons.mpr ⟨tb_ 736 (by decide +kernel) rfl, List.forall_mem_cons.mpr ⟨tb_ 7 (by decide +kernel) rfl, fun _ h => absurd h List.not_mem_nil⟩⟩⟩⟩, u_Mo_clash⟩)
set_option maxRecDepth 100000 in
theorem cv_La_83 (E : sx_E) {cc : ByteArray} (C : sx_C SC g_tbl "SiteChoiceLaw" cc E) (rm : Room) (hR : rm.frames + 1 ≤ (sx_R E).frames ∧ 8 + (4 + 11) + rm.locals ≤ (sx_R E).locals) : CallW (sx_R E) (sx_s E) (sx_a E) "SiteChoiceLaw" "SiteChoiceModel" 83 y_Mo_clash c_Mo_clash 4 (some .int) w_Mo_clash rm rm.cells rm.slots 1 := cwV 1 C.2.2.2.2.1 gv_La_83 rfl rfl rfl (by decide +kernel) hR
set_option maxRecDepth 100000 in
theorem gv_La_84 : GoodIn g_tbl (wsV "SiteChoiceLaw" 84 "SiteChoice" y_Si_gain w_Si_gain) := gi_ (List.forall_mem_append.mpr ⟨List.forall_mem_cons.mpr ⟨tb_ 447 (by decide +kernel) rfl, List.forall_mem_cons.mpr ⟨tb_ 448 (by decide +kernel) rfl, List.forall_mem_cons.mpr ⟨tb_ 449 (by decide +kernel) rfl, List.forall_mem_cons.mpr ⟨tb_ 1 (by decide +kernel) rfl, fun _ h => absurd h List.not_mem_nil⟩⟩⟩⟩, u_Si_gain⟩)
set_option maxRecDepth 100000 in
theorem cv_La_84 (E : sx_E) {cc : ByteArray} (C : sx_C SC g_tbl "SiteChoiceLaw" cc E) (rm : Room) (hR : rm.frames + 1 ≤ (sx_R E).frames ∧ 8 + (4 + 11) + rm.locals ≤ (sx_R E).locals) : CallW (sx_R E) (sx_s E) (sx_a E) "SiteChoiceLaw" "SiteChoice" 84 y_Si_gain c_Si_gain 4 (some .long) w_Si_gain rm rm.cells rm.slots 1 := cwV 1 C.2.2.2.2.1 gv_La_84 rfl rfl rfl (by decide +kernel) hR
set_option maxRecDepth 100000 in
theorem gv_La_88 : GoodIn g_tbl (wsV "SiteChoiceLaw" 88 "SiteChoiceModel" y_Mo_gain w_Mo_gain) := gi_ (List.forall_mem_append.mpr ⟨List.forall_mem_cons.mpr ⟨tb_ 738 (by decide +kernel) rfl, List.forall_mem_cons.mpr ⟨tb_ 739 (by decide +kernel) rfl, List.forall_mem_cons.mpr ⟨tb_ 740 (by decide +kernel) rfl, List.forall_mem_cons.mpr ⟨tb_ 7 (by decide +kernel) rfl, fun _ h => absurd h List.not_mem_nil⟩⟩⟩⟩, u_Mo_gain⟩)
set_option maxRecDepth 100000 in
theorem cv_La_88 (E : sx_E) {cc : ByteArray} (C : sx_C SC g_tbl "SiteChoiceLaw" cc E) (rm : Room) (hR : rm.frames + 1 ≤ (sx_R E).frames ∧ 8 + (4 + 11) + rm.locals ≤ (sx_R E).locals) : CallW (sx_R E) (sx_s E) (sx_a E) "SiteChoiceLaw" "SiteChoiceModel" 88 y_Mo_gain c_Mo_gain 4 (some .long) w_Mo_gain rm rm.cells rm.slots 1 := cwV 1 C.2.2.2.2.1 gv_La_88 rfl rfl rfl (by decide +kernel) hR
set_option maxRecDepth 100000 in
theorem gv_La_89 : GoodIn g_tbl (wsV "SiteChoiceLaw" 89 "SiteChoice" y_Si_improve w_Si_improve) := gi_ (List.forall_mem_append.mpr ⟨List.forall_mem_cons.mpr ⟨tb_ 451 (by decide +kernel) rfl, List.forall_mem_cons.mpr ⟨tb_ 452 (by decide +kernel) rfl, List.forall_mem_cons.mpr ⟨tb_ 453 (by decide +kernel) rfl, List.forall_mem_cons.mpr ⟨tb_ 1 (by decide +kernel) rfl, fun _ h => absurd h List.not_mem_nil⟩⟩⟩⟩, u_Si_improve⟩)
set_option maxRecDepth 100000 in
theorem cv_La_89 (E : sx_E) {cc : ByteArray} (C : sx_C SC g_tbl "SiteChoiceLaw" cc E) (rm : Room) (hR : rm.frames + 1 ≤ (sx_R E).frames ∧ 8 + (4 + 11) + rm.locals ≤ (sx_R E).locals) : CallW (sx_R E) (sx_s E) (sx_a E) "SiteChoiceLaw" "SiteChoice" 89 y_Si_improve c_Si_improve 4 (some .int) w_Si_improve rm rm.cells rm.slots 1 := cwV 1 C.2.2.2.2.1 gv_La_89 rfl rfl rfl (by decide +kernel) hR
set_option maxRecDepth 100000 in
theorem gv_La_92 : GoodIn g_tbl (wsV "SiteChoiceLaw" 92 "SiteChoiceModel" y_Mo_improve w_Mo_improve) := gi_ (List.forall_mem_append.mpr ⟨List.forall_mem_cons.mpr ⟨tb_ 742 (by decide +kernel) rfl, List.forall_mem_cons.mpr ⟨tb_ 743 (by decide +kernel) rfl, List.forall_mem_cons.mpr ⟨tb_ 744 (by decide +kernel) rfl, List.forall_mem_cons.mpr ⟨tb_ 7 (by decide +kernel) rfl, fun _ h => absurd h List.not_mem_nil⟩⟩⟩⟩, u_Mo_improve⟩)
set_option maxRecDepth 100000 in
theorem cv_La_92 (E : sx_E) {cc : ByteArray} (C : sx_C SC g_tbl "SiteChoiceLaw" cc E) (rm : Room) (hR : rm.frames + 1 ≤ (sx_R E).frames ∧ 8 + (3 + 11) + rm.locals ≤ (sx_R E).locals) : CallW (sx_R E) (sx_s E) (sx_a E) "SiteChoiceLaw" "SiteChoiceModel" 92 y_Mo_improve c_Mo_improve 3 (some .int) w_Mo_improve rm rm.cells rm.slots 1 := cwV 1 C.2.2.2.2.1 gv_La_92 rfl rfl rfl (by decide +kernel) hR
set_option maxRecDepth 100000 in
theorem gv_La_93 : GoodIn g_tbl (wsV "SiteChoiceLaw" 93 "SiteChoice" y_Si_years w_Si_years) := gi_ (List.forall_mem_append.mpr ⟨List.forall_mem_cons.mpr ⟨tb_ 477 (by decide +kernel) rfl, List.forall_mem_cons.mpr ⟨tb_ 478 (by decide +kernel) rfl, List.forall_mem_cons.mpr ⟨tb_ 479 (by decide +kernel) rfl, List.forall_mem_cons.mpr ⟨tb_ 1 (by decide +kernel) rfl, fun _ h => absurd h List.not_mem_nil⟩⟩⟩⟩, u_Si_years⟩)
set_option maxRecDepth 100000 in
theorem cv_La_93 (E : sx_E) {cc : ByteArray} (C : sx_C SC g_tbl "SiteChoiceLaw" cc E) (rm : Room) (hR : rm.frames + 1 ≤ (sx_R E).frames ∧ 8 + (2 + 11) + rm.locals ≤ (sx_R E).locals) : CallW (sx_R E) (sx_s E) (sx_a E) "SiteChoiceLaw" "SiteChoice" 93 y_Si_years c_Si_years 2 (some .int) w_Si_years rm rm.cells rm.slots 1 := cwV 1 C.2.2.2.2.1 gv_La_93 rfl rfl rfl (by decide +kernel) hR
set_option maxRecDepth 100000 in
theorem gv_La_96 : GoodIn g_tbl (wsV "SiteChoiceLaw" 96 "SiteChoiceModel" y_Mo_years w_Mo_years) := gi_ (List.forall_mem_append.mpr ⟨List.forall_mem_cons.mpr ⟨tb_ 750 (by decide +kernel) rfl, List.forall_mem_cons.mpr ⟨tb_ 751 (by decide +kernel) rfl, List.forall_mem_cons.mpr ⟨tb_ 752 (by decide +kernel) rfl, List.forall_mem_cons.mpr ⟨tb_ 7 (by decide +kernel) rfl, fun _ h => absurd h List.not_mem_nil⟩⟩⟩⟩, u_Mo_years⟩)
set_option maxRecDepth 100000 in
theorem cv_La_96 (E : sx_E) {cc : ByteArray} (C : sx_C SC g_tbl "SiteChoiceLaw" cc E) (rm : Room) (hR : rm.frames + 1 ≤ (sx_R E).frames ∧ 8 + (9 + 11) + rm.locals ≤ (sx_R E).locals) : CallW (sx_R E) (sx_s E) (sx_a E) "SiteChoiceLaw" "SiteChoiceModel" 96 y_Mo_years c_Mo_years 9 (some .int) w_Mo_years rm rm.cells rm.slots 1 := cwV 1 C.2.2.2.2.1 gv_La_96 rfl rfl rfl (by decide +kernel) hR
set_option maxRecDepth 100000 in
theorem gv_La_97 : GoodIn g_tbl (wsV "SiteChoiceLaw" 97 "SiteChoice" y_Si_open w_Si_open) := gi_ (List.forall_mem_append.mpr ⟨List.forall_mem_cons.mpr ⟨tb_ 510 (by decide +kernel) rfl, List.forall_mem_cons.mpr ⟨tb_ 511 (by decide +kernel) rfl, List.forall_mem_cons.mpr ⟨tb_ 512 (by decide +kernel) rfl, List.forall_mem_cons.mpr ⟨tb_ 1 (by decide +kernel) rfl, fun _ h => absurd h List.not_mem_nil⟩⟩⟩⟩, u_Si_open⟩)
set_option maxRecDepth 100000 in
theorem cv_La_97 (E : sx_E) {cc : ByteArray} (C : sx_C SC g_tbl "SiteChoiceLaw" cc E) (rm : Room) (hR : rm.frames + 1 ≤ (sx_R E).frames ∧ 8 + (3 + 11) + rm.locals ≤ (sx_R E).locals) : CallW (sx_R E) (sx_s E) (sx_a E) "SiteChoiceLaw" "SiteChoice" 97 y_Si_open c_Si_open 3 (some .int) w_Si_open rm rm.cells rm.slots 2 := cwV 2 C.2.2.2.2.1 gv_La_97 rfl rfl rfl (by decide +kernel) hR
set_option maxRecDepth 100000 in
theorem gv_La_101 : GoodIn g_tbl (wsV "SiteChoiceLaw" 101 "SiteChoiceModel" y_Mo_open w_Mo_open) := gi_ (List.forall_mem_append.mpr ⟨List.forall_mem_cons.mpr ⟨tb_ 763 (by decide +kernel) rfl, List.forall_mem_cons.mpr ⟨tb_ 764 (by decide +kernel) rfl, List.forall_mem_cons.mpr ⟨tb_ 765 (by decide +kernel) rfl, List.forall_mem_cons.mpr ⟨tb_ 7 (by decide +kernel) rfl, fun _ h => absurd h List.not_mem_nil⟩⟩⟩⟩, u_Mo_open⟩)
set_option maxRecDepth 100000 in
theorem cv_La_101 (E : sx_E) {cc : ByteArray} (C : sx_C SC g_tbl "SiteChoiceLaw" cc E) (rm : Room) (hR : rm.frames + 1 ≤ (sx_R E).frames ∧ 8 + (3 + 11) + rm.locals ≤ (sx_R E).locals) : CallW (sx_R E) (sx_s E) (sx_a E) "SiteChoiceLaw" "SiteChoiceModel" 101 y_Mo_open c_Mo_open 3 (some .int) w_Mo_open rm rm.cells rm.slots 2 := cwV 2 C.2.2.2.2.1 gv_La_101 rfl rfl rfl (by decide +kernel) hR
