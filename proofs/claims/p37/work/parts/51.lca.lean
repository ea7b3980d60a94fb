set_option maxRecDepth 1000000 in
theorem cd_X11_best : Cond.code yX11_best cX11_best 5 (some .int) ∈ tbg := tbm (List.mem_append_right _ (List.mem_of_getElem? (i := 835) (by rfl))) rfl
set_option maxRecDepth 1000000 in
theorem cd_X11_changed : Cond.code yX11_changed cX11_changed 7 (some .int) ∈ tbg := tbm (List.mem_append_right _ (List.mem_of_getElem? (i := 845) (by rfl))) rfl
set_option maxRecDepth 1000000 in
theorem cd_X11_count : Cond.code yX11_count cX11_count 2 (some .int) ∈ tbg := tbm (List.mem_append_right _ (List.mem_of_getElem? (i := 1150) (by rfl))) rfl
set_option maxRecDepth 1000000 in
theorem cd_X11_couple : Cond.code yX11_couple cX11_couple 2 (some .int) ∈ tbg := tbm (List.mem_append_right _ (List.mem_of_getElem? (i := 899) (by rfl))) rfl
set_option maxRecDepth 1000000 in
theorem cd_X11_couples : Cond.code yX11_couples cX11_couples 1 (some .int) ∈ tbg := tbm (List.mem_append_right _ (List.mem_of_getElem? (i := 875) (by rfl))) rfl
set_option maxRecDepth 1000000 in
theorem cd_X11_crews : Cond.code yX11_crews cX11_crews 5 (some .int) ∈ tbg := tbm (List.mem_append_right _ (List.mem_of_getElem? (i := 769) (by rfl))) rfl
set_option maxRecDepth 1000000 in
theorem cd_X11_cross : Cond.code yX11_cross cX11_cross 2 (some .int) ∈ tbg := tbm (List.mem_append_right _ (List.mem_of_getElem? (i := 704) (by rfl))) rfl
set_option maxRecDepth 1000000 in
theorem cd_X11_doubters : Cond.code yX11_doubters cX11_doubters 2 (some .int) ∈ tbg := tbm (List.mem_append_right _ (List.mem_of_getElem? (i := 903) (by rfl))) rfl
set_option maxRecDepth 1000000 in
theorem cd_X11_drawn : Cond.code yX11_drawn cX11_drawn 3 (some .int) ∈ tbg := tbm (List.mem_append_right _ (List.mem_of_getElem? (i := 919) (by rfl))) rfl
set_option maxRecDepth 1000000 in
theorem cd_X11_easy : Cond.code yX11_easy cX11_easy 4 (some .int) ∈ tbg := tbm (List.mem_append_right _ (List.mem_of_getElem? (i := 839) (by rfl))) rfl
set_option maxRecDepth 1000000 in
theorem cd_X11_end : Cond.code yX11_end cX11_end 2 (some .boolean) ∈ tbg := tbm (List.mem_append_right _ (List.mem_of_getElem? (i := 477) (by rfl))) rfl
set_option maxRecDepth 1000000 in
theorem cd_X11_fault : Cond.code yX11_fault cX11_fault 1 (some .int) ∈ tbg := tbm (List.mem_append_right _ (List.mem_of_getElem? (i := 642) (by rfl))) rfl
set_option maxRecDepth 1000000 in
theorem cd_X11_feed : Cond.code yX11_feed cX11_feed 6 (some .int) ∈ tbg := tbm (List.mem_append_right _ (List.mem_of_getElem? (i := 469) (by rfl))) rfl
set_option maxRecDepth 1000000 in
theorem cd_X11_ferry : Cond.code yX11_ferry cX11_ferry 2 (some .int) ∈ tbg := tbm (List.mem_append_right _ (List.mem_of_getElem? (i := 481) (by rfl))) rfl
set_option maxRecDepth 1000000 in
theorem cd_X11_fit : Cond.code yX11_fit cX11_fit 2 (some .int) ∈ tbg := tbm (List.mem_append_right _ (List.mem_of_getElem? (i := 871) (by rfl))) rfl
set_option maxRecDepth 1000000 in
theorem cd_X11_fits : Cond.code yX11_fits cX11_fits 7 (some .int) ∈ tbg := tbm (List.mem_append_right _ (List.mem_of_getElem? (i := 855) (by rfl))) rfl
set_option maxRecDepth 1000000 in
theorem cd_X11_foes : Cond.code yX11_foes cX11_foes 5 (some .int) ∈ tbg := tbm (List.mem_append_right _ (List.mem_of_getElem? (i := 914) (by rfl))) rfl
set_option maxRecDepth 1000000 in
theorem cd_X11_hire : Cond.code yX11_hire cX11_hire 2 (some .int) ∈ tbg := tbm (List.mem_append_right _ (List.mem_of_getElem? (i := 745) (by rfl))) rfl
set_option maxRecDepth 1000000 in
theorem cd_X11_image : Cond.code yX11_image cX11_image 2 (some .boolean) ∈ tbg := tbm (List.mem_append_right _ (List.mem_of_getElem? (i := 1136) (by rfl))) rfl
set_option maxRecDepth 1000000 in
theorem cd_X11_jokes : Cond.code yX11_jokes cX11_jokes 7 (some .int) ∈ tbg := tbm (List.mem_append_right _ (List.mem_of_getElem? (i := 1247) (by rfl))) rfl
set_option maxRecDepth 1000000 in
theorem cd_X11_largest : Cond.code yX11_largest cX11_largest 5 (some .int) ∈ tbg := tbm (List.mem_append_right _ (List.mem_of_getElem? (i := 793) (by rfl))) rfl
set_option maxRecDepth 1000000 in
theorem cd_X11_lie : Cond.code yX11_lie cX11_lie 4 (some .int) ∈ tbg := tbm (List.mem_append_right _ (List.mem_of_getElem? (i := 753) (by rfl))) rfl
set_option maxRecDepth 1000000 in
theorem cd_X11_log : Cond.code yX11_log cX11_log 4 (some .int) ∈ tbg := tbm (List.mem_append_right _ (List.mem_of_getElem? (i := 941) (by rfl))) rfl
set_option maxRecDepth 1000000 in
theorem cd_X11_logged : Cond.code yX11_logged cX11_logged 2 (some .int) ∈ tbg := tbm (List.mem_append_right _ (List.mem_of_getElem? (i := 1012) (by rfl))) rfl
set_option maxRecDepth 1000000 in
theorem cd_X11_man : Cond.code yX11_man cX11_man 3 (some .int) ∈ tbg := tbm (List.mem_append_right _ (List.mem_of_getElem? (i := 1158) (by rfl))) rfl
set_option maxRecDepth 1000000 in
theorem cd_X11_next : Cond.code yX11_next cX11_next 1 (some .int) ∈ tbg := tbm (List.mem_append_right _ (List.mem_of_getElem? (i := 824) (by rfl))) rfl
set_option maxRecDepth 1000000 in
theorem cd_X11_now : Cond.code yX11_now cX11_now 3 (some .int) ∈ tbg := tbm (List.mem_append_right _ (List.mem_of_getElem? (i := 646) (by rfl))) rfl
set_option maxRecDepth 1000000 in
theorem cd_X11_odds : Cond.code yX11_odds cX11_odds 6 (some .int) ∈ tbg := tbm (List.mem_append_right _ (List.mem_of_getElem? (i := 937) (by rfl))) rfl
set_option maxRecDepth 1000000 in
theorem cd_X11_raise : Cond.code yX11_raise cX11_raise 2 (some .int) ∈ tbg := tbm (List.mem_append_right _ (List.mem_of_getElem? (i := 737) (by rfl))) rfl
set_option maxRecDepth 1000000 in
theorem cd_X11_restore : Cond.code yX11_restore cX11_restore 2 (some .boolean) ∈ tbg := tbm (List.mem_append_right _ (List.mem_of_getElem? (i := 1146) (by rfl))) rfl
set_option maxRecDepth 1000000 in
theorem cd_X11_said : Cond.code yX11_said cX11_said 5 (some .int) ∈ tbg := tbm (List.mem_append_right _ (List.mem_of_getElem? (i := 1101) (by rfl))) rfl
set_option maxRecDepth 1000000 in
theorem cd_X11_says : Cond.code yX11_says cX11_says 3 (some .int) ∈ tbg := tbm (List.mem_append_right _ (List.mem_of_getElem? (i := 1233) (by rfl))) rfl
set_option maxRecDepth 1000000 in
theorem cd_X11_sentence : Cond.code yX11_sentence cX11_sentence 2 (some .int) ∈ tbg := tbm (List.mem_append_right _ (List.mem_of_getElem? (i := 1016) (by rfl))) rfl
set_option maxRecDepth 1000000 in
theorem cd_X11_stuck : Cond.code yX11_stuck cX11_stuck 4 (some .int) ∈ tbg := tbm (List.mem_append_right _ (List.mem_of_getElem? (i := 798) (by rfl))) rfl
set_option maxRecDepth 1000000 in
theorem cd_X11_sum : Cond.code yX11_sum cX11_sum 2 (some .int) ∈ tbg := tbm (List.mem_append_right _ (List.mem_of_getElem? (i := 1240) (by rfl))) rfl
set_option maxRecDepth 1000000 in
theorem cd_X11_thinks : Cond.code yX11_thinks cX11_thinks 3 (some .int) ∈ tbg := tbm (List.mem_append_right _ (List.mem_of_getElem? (i := 1226) (by rfl))) rfl
set_option maxRecDepth 1000000 in
theorem cd_X11_trips : Cond.code yX11_trips cX11_trips 2 (some .int) ∈ tbg := tbm (List.mem_append_right _ (List.mem_of_getElem? (i := 802) (by rfl))) rfl
set_option maxRecDepth 1000000 in
theorem cd_X11_turn : Cond.code yX11_turn cX11_turn 4 (some .int) ∈ tbg := tbm (List.mem_append_right _ (List.mem_of_getElem? (i := 761) (by rfl))) rfl
set_option maxRecDepth 1000000 in
theorem cd_X11_undo : Cond.code yX11_undo cX11_undo 1 (some .int) ∈ tbg := tbm (List.mem_append_right _ (List.mem_of_getElem? (i := 765) (by rfl))) rfl
set_option maxRecDepth 1000000 in
theorem cd_X11_why : Cond.code yX11_why cX11_why 2 (some .int) ∈ tbg := tbm (List.mem_append_right _ (List.mem_of_getElem? (i := 661) (by rfl))) rfl
set_option maxRecDepth 1000000 in
theorem cd_X12_best : Cond.code yX12_best cX12_best 5 (some .int) ∈ tbg := tbm (List.mem_append_right _ (List.mem_of_getElem? (i := 1708) (by rfl))) rfl
set_option maxRecDepth 1000000 in
theorem cd_X12_changed : Cond.code yX12_changed cX12_changed 5 (some .int) ∈ tbg := tbm (List.mem_append_right _ (List.mem_of_getElem? (i := 1716) (by rfl))) rfl
set_option maxRecDepth 1000000 in
theorem cd_X12_count : Cond.code yX12_count cX12_count 2 (some .int) ∈ tbg := tbm (List.mem_append_right _ (List.mem_of_getElem? (i := 1872) (by rfl))) rfl
set_option maxRecDepth 1000000 in
theorem cd_X12_couple : Cond.code yX12_couple cX12_couple 2 (some .int) ∈ tbg := tbm (List.mem_append_right _ (List.mem_of_getElem? (i := 1752) (by rfl))) rfl
set_option maxRecDepth 1000000 in
theorem cd_X12_couples : Cond.code yX12_couples cX12_couples 6 (some .int) ∈ tbg := tbm (List.mem_append_right _ (List.mem_of_getElem? (i := 1740) (by rfl))) rfl
set_option maxRecDepth 1000000 in
theorem cd_X12_crews : Cond.code yX12_crews cX12_crews 4 (some .int) ∈ tbg := tbm (List.mem_append_right _ (List.mem_of_getElem? (i := 1679) (by rfl))) rfl
set_option maxRecDepth 1000000 in
theorem cd_X12_cross : Cond.code yX12_cross cX12_cross 3 (some .int) ∈ tbg := tbm (List.mem_append_right _ (List.mem_of_getElem? (i := 1615) (by rfl))) rfl
set_option maxRecDepth 1000000 in
theorem cd_X12_doubters : Cond.code yX12_doubters cX12_doubters 6 (some .int) ∈ tbg := tbm (List.mem_append_right _ (List.mem_of_getElem? (i := 1756) (by rfl))) rfl
set_option maxRecDepth 1000000 in
theorem cd_X12_drawn : Cond.code yX12_drawn cX12_drawn 3 (some .int) ∈ tbg := tbm (List.mem_append_right _ (List.mem_of_getElem? (i := 1775) (by rfl))) rfl
set_option maxRecDepth 1000000 in
theorem cd_X12_easy : Cond.code yX12_easy cX12_easy 3 (some .int) ∈ tbg := tbm (List.mem_append_right _ (List.mem_of_getElem? (i := 1712) (by rfl))) rfl
set_option maxRecDepth 1000000 in
theorem cd_X12_end : Cond.code yX12_end cX12_end 2 (some .boolean) ∈ tbg := tbm (List.mem_append_right _ (List.mem_of_getElem? (i := 1264) (by rfl))) rfl
set_option maxRecDepth 1000000 in
theorem cd_X12_fault : Cond.code yX12_fault cX12_fault 1 (some .int) ∈ tbg := tbm (List.mem_append_right _ (List.mem_of_getElem? (i := 1529) (by rfl))) rfl
set_option maxRecDepth 1000000 in
theorem cd_X12_feed : Cond.code yX12_feed cX12_feed 6 (some .int) ∈ tbg := tbm (List.mem_append_right _ (List.mem_of_getElem? (i := 1255) (by rfl))) rfl
set_option maxRecDepth 1000000 in
theorem cd_X12_ferry : Cond.code yX12_ferry cX12_ferry 2 (some .int) ∈ tbg := tbm (List.mem_append_right _ (List.mem_of_getElem? (i := 1449) (by rfl))) rfl
set_option maxRecDepth 1000000 in
theorem cd_X12_fit : Cond.code yX12_fit cX12_fit 2 (some .int) ∈ tbg := tbm (List.mem_append_right _ (List.mem_of_getElem? (i := 1736) (by rfl))) rfl
set_option maxRecDepth 1000000 in
theorem cd_X12_fits : Cond.code yX12_fits cX12_fits 4 (some .int) ∈ tbg := tbm (List.mem_append_right _ (List.mem_of_getElem? (i := 1720) (by rfl))) rfl
set_option maxRecDepth 1000000 in
theorem cd_X12_foes : Cond.code yX12_foes cX12_foes 5 (some .int) ∈ tbg := tbm (List.mem_append_right _ (List.mem_of_getElem? (i := 1771) (by rfl))) rfl
set_option maxRecDepth 1000000 in
theorem cd_X12_hire : Cond.code yX12_hire cX12_hire 2 (some .int) ∈ tbg := tbm (List.mem_append_right _ (List.mem_of_getElem? (i := 1635) (by rfl))) rfl
set_option maxRecDepth 1000000 in
theorem cd_X12_image : Cond.code yX12_image cX12_image 3 (some .boolean) ∈ tbg := tbm (List.mem_append_right _ (List.mem_of_getElem? (i := 1864) (by rfl))) rfl
set_option maxRecDepth 1000000 in
theorem cd_X12_jokes : Cond.code yX12_jokes cX12_jokes 7 (some .int) ∈ tbg := tbm (List.mem_append_right _ (List.mem_of_getElem? (i := 1764) (by rfl))) rfl
set_option maxRecDepth 1000000 in
theorem cd_X12_largest : Cond.code yX12_largest cX12_largest 3 (some .int) ∈ tbg := tbm (List.mem_append_right _ (List.mem_of_getElem? (i := 1683) (by rfl))) rfl
set_option maxRecDepth 1000000 in
theorem cd_X12_lie : Cond.code yX12_lie cX12_lie 5 (some .int) ∈ tbg := tbm (List.mem_append_right _ (List.mem_of_getElem? (i := 1647) (by rfl))) rfl
set_option maxRecDepth 1000000 in
theorem cd_X12_log : Cond.code yX12_log cX12_log 5 (some .int) ∈ tbg := tbm (List.mem_append_right _ (List.mem_of_getElem? (i := 1800) (by rfl))) rfl
set_option maxRecDepth 1000000 in
theorem cd_X12_logged : Cond.code yX12_logged cX12_logged 2 (some .int) ∈ tbg := tbm (List.mem_append_right _ (List.mem_of_getElem? (i := 1820) (by rfl))) rfl
set_option maxRecDepth 1000000 in
theorem cd_X12_man : Cond.code yX12_man cX12_man 3 (some .int) ∈ tbg := tbm (List.mem_append_right _ (List.mem_of_getElem? (i := 1533) (by rfl))) rfl
set_option maxRecDepth 1000000 in
theorem cd_X12_next : Cond.code yX12_next cX12_next 4 (some .int) ∈ tbg := tbm (List.mem_append_right _ (List.mem_of_getElem? (i := 1704) (by rfl))) rfl
set_option maxRecDepth 1000000 in
theorem cd_X12_now : Cond.code yX12_now cX12_now 2 (some .int) ∈ tbg := tbm (List.mem_append_right _ (List.mem_of_getElem? (i := 1569) (by rfl))) rfl
set_option maxRecDepth 1000000 in
theorem cd_X12_odds : Cond.code yX12_odds cX12_odds 6 (some .int) ∈ tbg := tbm (List.mem_append_right _ (List.mem_of_getElem? (i := 1788) (by rfl))) rfl
set_option maxRecDepth 1000000 in
theorem cd_X12_raise : Cond.code yX12_raise cX12_raise 2 (some .int) ∈ tbg := tbm (List.mem_append_right _ (List.mem_of_getElem? (i := 1627) (by rfl))) rfl
set_option maxRecDepth 1000000 in
theorem cd_X12_restore : Cond.code yX12_restore cX12_restore 3 (some .boolean) ∈ tbg := tbm (List.mem_append_right _ (List.mem_of_getElem? (i := 1868) (by rfl))) rfl
set_option maxRecDepth 1000000 in
theorem cd_X12_said : Cond.code yX12_said cX12_said 4 (some .int) ∈ tbg := tbm (List.mem_append_right _ (List.mem_of_getElem? (i := 1852) (by rfl))) rfl
set_option maxRecDepth 1000000 in
theorem cd_X12_says : Cond.code yX12_says cX12_says 3 (some .int) ∈ tbg := tbm (List.mem_append_right _ (List.mem_of_getElem? (i := 1557) (by rfl))) rfl
set_option maxRecDepth 1000000 in
theorem cd_X12_sentence : Cond.code yX12_sentence cX12_sentence 3 (some .int) ∈ tbg := tbm (List.mem_append_right _ (List.mem_of_getElem? (i := 1824) (by rfl))) rfl
set_option maxRecDepth 1000000 in
theorem cd_X12_stuck : Cond.code yX12_stuck cX12_stuck 3 (some .int) ∈ tbg := tbm (List.mem_append_right _ (List.mem_of_getElem? (i := 1687) (by rfl))) rfl
set_option maxRecDepth 1000000 in
theorem cd_X12_sum : Cond.code yX12_sum cX12_sum 2 (some .int) ∈ tbg := tbm (List.mem_append_right _ (List.mem_of_getElem? (i := 1675) (by rfl))) rfl
set_option maxRecDepth 1000000 in
theorem cd_X12_thinks : Cond.code yX12_thinks cX12_thinks 3 (some .int) ∈ tbg := tbm (List.mem_append_right _ (List.mem_of_getElem? (i := 1549) (by rfl))) rfl
set_option maxRecDepth 1000000 in
theorem cd_X12_trips : Cond.code yX12_trips cX12_trips 2 (some .int) ∈ tbg := tbm (List.mem_append_right _ (List.mem_of_getElem? (i := 1691) (by rfl))) rfl
set_option maxRecDepth 1000000 in
theorem cd_X12_turn : Cond.code yX12_turn cX12_turn 4 (some .int) ∈ tbg := tbm (List.mem_append_right _ (List.mem_of_getElem? (i := 1659) (by rfl))) rfl
set_option maxRecDepth 1000000 in
theorem cd_X12_undo : Cond.code yX12_undo cX12_undo 2 (some .int) ∈ tbg := tbm (List.mem_append_right _ (List.mem_of_getElem? (i := 1671) (by rfl))) rfl
set_option maxRecDepth 1000000 in
theorem cd_X12_why : Cond.code yX12_why cX12_why 2 (some .int) ∈ tbg := tbm (List.mem_append_right _ (List.mem_of_getElem? (i := 1577) (by rfl))) rfl
