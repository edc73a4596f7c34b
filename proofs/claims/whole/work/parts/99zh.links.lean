/-! the wrappers, in the tables -/
theorem wl_game : MLX hL_game mL_game 2 := ⟨TT_of (i := 623) (by decide +kernel) rfl, TT_of (i := 91) (by decide +kernel) rfl, ⟨by decide +kernel, by decide +kernel⟩, by decide +kernel⟩
theorem ws_game : Cond.static mL_game.1 ∈ TT := TT_of (i := 622) (by decide +kernel) rfl
theorem wl_goals : MLX hL_goals mL_goals 2 := ⟨TT_of (i := 933) (by decide +kernel) rfl, TT_of (i := 91) (by decide +kernel) rfl, ⟨by decide +kernel, by decide +kernel⟩, by decide +kernel⟩
theorem ws_goals : Cond.static mL_goals.1 ∈ TT := TT_of (i := 932) (by decide +kernel) rfl
theorem wl_rule : MLX hL_rule mL_rule 2 := ⟨TT_of (i := 951) (by decide +kernel) rfl, TT_of (i := 91) (by decide +kernel) rfl, ⟨by decide +kernel, by decide +kernel⟩, by decide +kernel⟩
theorem ws_rule : Cond.static mL_rule.1 ∈ TT := TT_of (i := 950) (by decide +kernel) rfl
theorem wl_follows : MLX hL_follows mL_follows 4 := ⟨TT_of (i := 962) (by decide +kernel) rfl, TT_of (i := 91) (by decide +kernel) rfl, ⟨by decide +kernel, by decide +kernel⟩, by decide +kernel⟩
theorem ws_follows : Cond.static mL_follows.1 ∈ TT := TT_of (i := 961) (by decide +kernel) rfl
theorem wl_kick : MLX hL_kick mL_kick 3 := ⟨TT_of (i := 1012) (by decide +kernel) rfl, TT_of (i := 91) (by decide +kernel) rfl, ⟨by decide +kernel, by decide +kernel⟩, by decide +kernel⟩
theorem ws_kick : Cond.static mL_kick.1 ∈ TT := TT_of (i := 1011) (by decide +kernel) rfl
theorem wl_now : MLX hL_now mL_now 3 := ⟨TT_of (i := 1023) (by decide +kernel) rfl, TT_of (i := 91) (by decide +kernel) rfl, ⟨by decide +kernel, by decide +kernel⟩, by decide +kernel⟩
theorem ws_now : Cond.static mL_now.1 ∈ TT := TT_of (i := 1022) (by decide +kernel) rfl
theorem wl_lost : MLX hL_lost mL_lost 2 := ⟨TT_of (i := 1030) (by decide +kernel) rfl, TT_of (i := 91) (by decide +kernel) rfl, ⟨by decide +kernel, by decide +kernel⟩, by decide +kernel⟩
theorem ws_lost : Cond.static mL_lost.1 ∈ TT := TT_of (i := 1029) (by decide +kernel) rfl
theorem wl_horizon : MLX hL_horizon mL_horizon 2 := ⟨TT_of (i := 1037) (by decide +kernel) rfl, TT_of (i := 91) (by decide +kernel) rfl, ⟨by decide +kernel, by decide +kernel⟩, by decide +kernel⟩
theorem ws_horizon : Cond.static mL_horizon.1 ∈ TT := TT_of (i := 1036) (by decide +kernel) rfl
theorem wl_grace : MLX hL_grace mL_grace 2 := ⟨TT_of (i := 1044) (by decide +kernel) rfl, TT_of (i := 91) (by decide +kernel) rfl, ⟨by decide +kernel, by decide +kernel⟩, by decide +kernel⟩
theorem ws_grace : Cond.static mL_grace.1 ∈ TT := TT_of (i := 1043) (by decide +kernel) rfl
theorem wl_sort : MLX hL_sort mL_sort 4 := ⟨TT_of (i := 1051) (by decide +kernel) rfl, TT_of (i := 91) (by decide +kernel) rfl, ⟨by decide +kernel, by decide +kernel⟩, by decide +kernel⟩
theorem ws_sort : Cond.static mL_sort.1 ∈ TT := TT_of (i := 1050) (by decide +kernel) rfl
theorem wl_patience : MLX hL_patience mL_patience 2 := ⟨TT_of (i := 1062) (by decide +kernel) rfl, TT_of (i := 91) (by decide +kernel) rfl, ⟨by decide +kernel, by decide +kernel⟩, by decide +kernel⟩
theorem ws_patience : Cond.static mL_patience.1 ∈ TT := TT_of (i := 1061) (by decide +kernel) rfl
theorem wl_worth : MLX hL_worth mL_worth 4 := ⟨TT_of (i := 1069) (by decide +kernel) rfl, TT_of (i := 91) (by decide +kernel) rfl, ⟨by decide +kernel, by decide +kernel⟩, by decide +kernel⟩
theorem ws_worth : Cond.static mL_worth.1 ∈ TT := TT_of (i := 1068) (by decide +kernel) rfl
theorem wl_stop : MLX hL_stop mL_stop 5 := ⟨TT_of (i := 1101) (by decide +kernel) rfl, TT_of (i := 91) (by decide +kernel) rfl, ⟨by decide +kernel, by decide +kernel⟩, by decide +kernel⟩
theorem ws_stop : Cond.static mL_stop.1 ∈ TT := TT_of (i := 1100) (by decide +kernel) rfl
theorem wl_judge : MLX hL_judge mL_judge 8 := ⟨TT_of (i := 1128) (by decide +kernel) rfl, TT_of (i := 91) (by decide +kernel) rfl, ⟨by decide +kernel, by decide +kernel⟩, by decide +kernel⟩
theorem ws_judge : Cond.static mL_judge.1 ∈ TT := TT_of (i := 1127) (by decide +kernel) rfl
theorem wl_does : MLX hL_does mL_does 8 := ⟨TT_of (i := 1177) (by decide +kernel) rfl, TT_of (i := 91) (by decide +kernel) rfl, ⟨by decide +kernel, by decide +kernel⟩, by decide +kernel⟩
theorem ws_does : Cond.static mL_does.1 ∈ TT := TT_of (i := 1176) (by decide +kernel) rfl
theorem wl_waits : MLX hL_waits mL_waits 5 := ⟨TT_of (i := 1188) (by decide +kernel) rfl, TT_of (i := 91) (by decide +kernel) rfl, ⟨by decide +kernel, by decide +kernel⟩, by decide +kernel⟩
theorem ws_waits : Cond.static mL_waits.1 ∈ TT := TT_of (i := 1187) (by decide +kernel) rfl
theorem wl_enough : MLX hL_enough mL_enough 5 := ⟨TT_of (i := 1199) (by decide +kernel) rfl, TT_of (i := 91) (by decide +kernel) rfl, ⟨by decide +kernel, by decide +kernel⟩, by decide +kernel⟩
theorem ws_enough : Cond.static mL_enough.1 ∈ TT := TT_of (i := 1198) (by decide +kernel) rfl
theorem wl_loses : MLX hL_loses mL_loses 7 := ⟨TT_of (i := 1206) (by decide +kernel) rfl, TT_of (i := 91) (by decide +kernel) rfl, ⟨by decide +kernel, by decide +kernel⟩, by decide +kernel⟩
theorem ws_loses : Cond.static mL_loses.1 ∈ TT := TT_of (i := 1205) (by decide +kernel) rfl
theorem wl_part : MLX hL_part mL_part 8 := ⟨TT_of (i := 1218) (by decide +kernel) rfl, TT_of (i := 91) (by decide +kernel) rfl, ⟨by decide +kernel, by decide +kernel⟩, by decide +kernel⟩
theorem ws_part : Cond.static mL_part.1 ∈ TT := TT_of (i := 1217) (by decide +kernel) rfl
theorem wl_bar : MLX hL_bar mL_bar 4 := ⟨TT_of (i := 1238) (by decide +kernel) rfl, TT_of (i := 91) (by decide +kernel) rfl, ⟨by decide +kernel, by decide +kernel⟩, by decide +kernel⟩
theorem ws_bar : Cond.static mL_bar.1 ∈ TT := TT_of (i := 1237) (by decide +kernel) rfl
theorem wl_pays : MLX hL_pays mL_pays 5 := ⟨TT_of (i := 1245) (by decide +kernel) rfl, TT_of (i := 91) (by decide +kernel) rfl, ⟨by decide +kernel, by decide +kernel⟩, by decide +kernel⟩
theorem ws_pays : Cond.static mL_pays.1 ∈ TT := TT_of (i := 1244) (by decide +kernel) rfl
theorem wl_least : MLX hL_least mL_least 6 := ⟨TT_of (i := 1261) (by decide +kernel) rfl, TT_of (i := 91) (by decide +kernel) rfl, ⟨by decide +kernel, by decide +kernel⟩, by decide +kernel⟩
theorem ws_least : Cond.static mL_least.1 ∈ TT := TT_of (i := 1260) (by decide +kernel) rfl
theorem wl_rate : MLX hL_rate mL_rate 5 := ⟨TT_of (i := 1272) (by decide +kernel) rfl, TT_of (i := 91) (by decide +kernel) rfl, ⟨by decide +kernel, by decide +kernel⟩, by decide +kernel⟩
theorem ws_rate : Cond.static mL_rate.1 ∈ TT := TT_of (i := 1271) (by decide +kernel) rfl
theorem wl_often : MLX hL_often mL_often 4 := ⟨TT_of (i := 1284) (by decide +kernel) rfl, TT_of (i := 91) (by decide +kernel) rfl, ⟨by decide +kernel, by decide +kernel⟩, by decide +kernel⟩
theorem ws_often : Cond.static mL_often.1 ∈ TT := TT_of (i := 1283) (by decide +kernel) rfl
theorem wl_match : MLX hL_match mL_match 5 := ⟨TT_of (i := 1291) (by decide +kernel) rfl, TT_of (i := 91) (by decide +kernel) rfl, ⟨by decide +kernel, by decide +kernel⟩, by decide +kernel⟩
theorem ws_match : Cond.static mL_match.1 ∈ TT := TT_of (i := 1290) (by decide +kernel) rfl
theorem wl_learn : MLX hL_learn mL_learn 4 := ⟨TT_of (i := 1320) (by decide +kernel) rfl, TT_of (i := 91) (by decide +kernel) rfl, ⟨by decide +kernel, by decide +kernel⟩, by decide +kernel⟩
theorem ws_learn : Cond.static mL_learn.1 ∈ TT := TT_of (i := 1319) (by decide +kernel) rfl
theorem wl_two : MLX hL_two mL_two 8 := ⟨TT_of (i := 1353) (by decide +kernel) rfl, TT_of (i := 91) (by decide +kernel) rfl, ⟨by decide +kernel, by decide +kernel⟩, by decide +kernel⟩
theorem ws_two : Cond.static mL_two.1 ∈ TT := TT_of (i := 1352) (by decide +kernel) rfl
theorem wl_leans : MLX hL_leans mL_leans 7 := ⟨TT_of (i := 1361) (by decide +kernel) rfl, TT_of (i := 91) (by decide +kernel) rfl, ⟨by decide +kernel, by decide +kernel⟩, by decide +kernel⟩
theorem ws_leans : Cond.static mL_leans.1 ∈ TT := TT_of (i := 1360) (by decide +kernel) rfl
theorem wl_played : MLX hL_played mL_played 8 := ⟨TT_of (i := 1371) (by decide +kernel) rfl, TT_of (i := 91) (by decide +kernel) rfl, ⟨by decide +kernel, by decide +kernel⟩, by decide +kernel⟩
theorem ws_played : Cond.static mL_played.1 ∈ TT := TT_of (i := 1370) (by decide +kernel) rfl
theorem wl_ends : MLX hL_ends mL_ends 8 := ⟨TT_of (i := 1392) (by decide +kernel) rfl, TT_of (i := 91) (by decide +kernel) rfl, ⟨by decide +kernel, by decide +kernel⟩, by decide +kernel⟩
theorem ws_ends : Cond.static mL_ends.1 ∈ TT := TT_of (i := 1391) (by decide +kernel) rfl
theorem wl_mean : MLX hL_mean mL_mean 5 := ⟨TT_of (i := 1420) (by decide +kernel) rfl, TT_of (i := 91) (by decide +kernel) rfl, ⟨by decide +kernel, by decide +kernel⟩, by decide +kernel⟩
theorem ws_mean : Cond.static mL_mean.1 ∈ TT := TT_of (i := 1419) (by decide +kernel) rfl
theorem wl_plain : MLX hL_plain mL_plain 4 := ⟨TT_of (i := 1431) (by decide +kernel) rfl, TT_of (i := 91) (by decide +kernel) rfl, ⟨by decide +kernel, by decide +kernel⟩, by decide +kernel⟩
theorem ws_plain : Cond.static mL_plain.1 ∈ TT := TT_of (i := 1430) (by decide +kernel) rfl
theorem wl_right : MLX hL_right mL_right 6 := ⟨TT_of (i := 1442) (by decide +kernel) rfl, TT_of (i := 91) (by decide +kernel) rfl, ⟨by decide +kernel, by decide +kernel⟩, by decide +kernel⟩
theorem ws_right : Cond.static mL_right.1 ∈ TT := TT_of (i := 1441) (by decide +kernel) rfl
theorem wl_rest : MLX hL_rest mL_rest 5 := ⟨TT_of (i := 1457) (by decide +kernel) rfl, TT_of (i := 91) (by decide +kernel) rfl, ⟨by decide +kernel, by decide +kernel⟩, by decide +kernel⟩
theorem ws_rest : Cond.static mL_rest.1 ∈ TT := TT_of (i := 1456) (by decide +kernel) rfl
theorem wl_season : MLX hL_season mL_season 7 := ⟨TT_of (i := 1480) (by decide +kernel) rfl, TT_of (i := 91) (by decide +kernel) rfl, ⟨by decide +kernel, by decide +kernel⟩, by decide +kernel⟩
theorem ws_season : Cond.static mL_season.1 ∈ TT := TT_of (i := 1479) (by decide +kernel) rfl
