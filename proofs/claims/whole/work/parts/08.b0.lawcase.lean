/-! LAW: cases -/
/-- what stands behind a case: the loop goes on with the same world on both sides -/
def LK (Γ : GT) (g : gT) (b0 i : Nat) (ad ad2 : Nat → Nat) : Prop := ∀ (B1 : Bx) (J3 : Jx) (J4 : Mx), bOk B1 → mOk B1 J4 → Go Γ g 4 room_1 46 1431 (LX g ad ad2 B1 J3 B1 J4) 1852 [(3, .int (nI i)), (2, .ref (ad2 0)), (1, .ref (ad 0)), (0, .ref b0)] []
theorem lcal_X3_row : Cal yX3_row wsX3_row cX3_row 4 (some .int) RX3 3 := ⟨⟨_, rfl⟩, by decide +kernel⟩
theorem lcal_X4_row : Cal yX4_row wsX4_row cX4_row 5 (some .int) RX4 3 := ⟨⟨_, rfl⟩, by decide +kernel⟩
theorem lcal_X3_set : Cal yX3_set wsX3_set cX3_set 6 (some .int) RX3 3 := ⟨⟨_, rfl⟩, by decide +kernel⟩
theorem lcal_X4_set : Cal yX4_set wsX4_set cX4_set 8 (some .int) RX4 3 := ⟨⟨_, rfl⟩, by decide +kernel⟩
theorem lcal_X3_copy : Cal yX3_copy wsX3_copy cX3_copy 8 (some .int) RX3 5 := ⟨⟨_, rfl⟩, by decide +kernel⟩
theorem lcal_X4_copy : Cal yX4_copy wsX4_copy cX4_copy 7 (some .int) RX4 5 := ⟨⟨_, rfl⟩, by decide +kernel⟩
theorem lcal_X3_element : Cal yX3_element wsX3_element cX3_element 3 (some .long) RX3 2 := ⟨⟨_, rfl⟩, by decide +kernel⟩
theorem lcal_X4_element : Cal yX4_element wsX4_element cX4_element 3 (some .long) RX4 2 := ⟨⟨_, rfl⟩, by decide +kernel⟩
theorem lcal_X3_holds : Cal yX3_holds wsX3_holds cX3_holds 2 (some .int) RX3 1 := ⟨⟨_, rfl⟩, by decide +kernel⟩
theorem lcal_X4_holds : Cal yX4_holds wsX4_holds cX4_holds 2 (some .int) RX4 1 := ⟨⟨_, rfl⟩, by decide +kernel⟩
theorem lcal_X3_show : Cal yX3_show wsX3_show cX3_show 3 (some .int) RX3 2 := ⟨⟨_, rfl⟩, by decide +kernel⟩
theorem lcal_X4_show : Cal yX4_show wsX4_show cX4_show 3 (some .int) RX4 2 := ⟨⟨_, rfl⟩, by decide +kernel⟩
theorem lcal_X3_says : Cal yX3_says wsX3_says cX3_says 5 (some .int) RX3 2 := ⟨⟨_, rfl⟩, by decide +kernel⟩
theorem lcal_X4_says : Cal yX4_says wsX4_says cX4_says 6 (some .int) RX4 2 := ⟨⟨_, rfl⟩, by decide +kernel⟩
theorem lcal_X3_term : Cal yX3_term wsX3_term cX3_term 3 (some .int) RX3 1 := ⟨⟨_, rfl⟩, by decide +kernel⟩
theorem lcal_X4_term : Cal yX4_term wsX4_term cX4_term 3 (some .int) RX4 1 := ⟨⟨_, rfl⟩, by decide +kernel⟩
theorem lcal_X3_person : Cal yX3_person wsX3_person cX3_person 3 (some .int) RX3 2 := ⟨⟨_, rfl⟩, by decide +kernel⟩
theorem lcal_X4_person : Cal yX4_person wsX4_person cX4_person 3 (some .int) RX4 2 := ⟨⟨_, rfl⟩, by decide +kernel⟩
theorem lcal_X3_allow : Cal yX3_allow wsX3_allow cX3_allow 3 (some .int) RX3 2 := ⟨⟨_, rfl⟩, by decide +kernel⟩
theorem lcal_X4_allow : Cal yX4_allow wsX4_allow cX4_allow 3 (some .int) RX4 2 := ⟨⟨_, rfl⟩, by decide +kernel⟩
theorem lcal_X3_weight : Cal yX3_weight wsX3_weight cX3_weight 4 (some .int) RX3 2 := ⟨⟨_, rfl⟩, by decide +kernel⟩
theorem lcal_X4_weight : Cal yX4_weight wsX4_weight cX4_weight 4 (some .int) RX4 2 := ⟨⟨_, rfl⟩, by decide +kernel⟩
theorem lcal_X3_say : Cal yX3_say wsX3_say cX3_say 1 (some .int) RX3 0 := ⟨⟨_, rfl⟩, by decide +kernel⟩
theorem lcal_X4_say : Cal yX4_say wsX4_say cX4_say 1 (some .int) RX4 0 := ⟨⟨_, rfl⟩, by decide +kernel⟩
theorem lcal_X3_unsay : Cal yX3_unsay wsX3_unsay cX3_unsay 3 (some .int) RX3 1 := ⟨⟨_, rfl⟩, by decide +kernel⟩
theorem lcal_X4_unsay : Cal yX4_unsay wsX4_unsay cX4_unsay 3 (some .int) RX4 1 := ⟨⟨_, rfl⟩, by decide +kernel⟩
theorem lcal_X3_hint : Cal yX3_hint wsX3_hint cX3_hint 2 (some .int) RX3 1 := ⟨⟨_, rfl⟩, by decide +kernel⟩
theorem lcal_X4_hint : Cal yX4_hint wsX4_hint cX4_hint 2 (some .int) RX4 1 := ⟨⟨_, rfl⟩, by decide +kernel⟩
theorem lcal_X3_feed : Cal yX3_feed wsX3_feed cX3_feed 2 (some .int) RX3 1 := ⟨⟨_, rfl⟩, by decide +kernel⟩
theorem lcal_X4_feed : Cal yX4_feed wsX4_feed cX4_feed 2 (some .int) RX4 1 := ⟨⟨_, rfl⟩, by decide +kernel⟩
theorem lcal_X3_wipe : Cal yX3_wipe wsX3_wipe cX3_wipe 2 (some .int) RX3 0 := ⟨⟨_, rfl⟩, by decide +kernel⟩
theorem lcal_X4_wipe : Cal yX4_wipe wsX4_wipe cX4_wipe 2 (some .int) RX4 0 := ⟨⟨_, rfl⟩, by decide +kernel⟩
theorem lcal_X3_school : Cal yX3_school wsX3_school cX3_school 2 (some .int) RX3 0 := ⟨⟨_, rfl⟩, by decide +kernel⟩
theorem lcal_X4_school : Cal yX4_school wsX4_school cX4_school 3 (some .int) RX4 0 := ⟨⟨_, rfl⟩, by decide +kernel⟩
theorem lcal_X3_personOf : Cal yX3_personOf wsX3_personOf cX3_personOf 3 (some .int) RX3 2 := ⟨⟨_, rfl⟩, by decide +kernel⟩
theorem lcal_X4_personOf : Cal yX4_personOf wsX4_personOf cX4_personOf 3 (some .int) RX4 2 := ⟨⟨_, rfl⟩, by decide +kernel⟩
theorem lcal_X3_morningOf : Cal yX3_morningOf wsX3_morningOf cX3_morningOf 3 (some .int) RX3 2 := ⟨⟨_, rfl⟩, by decide +kernel⟩
theorem lcal_X4_morningOf : Cal yX4_morningOf wsX4_morningOf cX4_morningOf 3 (some .int) RX4 2 := ⟨⟨_, rfl⟩, by decide +kernel⟩
theorem lcal_X3_can : Cal yX3_can wsX3_can cX3_can 3 (some .int) RX3 2 := ⟨⟨_, rfl⟩, by decide +kernel⟩
theorem lcal_X4_can : Cal yX4_can wsX4_can cX4_can 3 (some .int) RX4 2 := ⟨⟨_, rfl⟩, by decide +kernel⟩
theorem lcal_X3_expects : Cal yX3_expects wsX3_expects cX3_expects 3 (some .int) RX3 2 := ⟨⟨_, rfl⟩, by decide +kernel⟩
theorem lcal_X4_expects : Cal yX4_expects wsX4_expects cX4_expects 3 (some .int) RX4 2 := ⟨⟨_, rfl⟩, by decide +kernel⟩
theorem lcal_X3_who : Cal yX3_who wsX3_who cX3_who 2 (some .int) RX3 1 := ⟨⟨_, rfl⟩, by decide +kernel⟩
theorem lcal_X4_who : Cal yX4_who wsX4_who cX4_who 2 (some .int) RX4 1 := ⟨⟨_, rfl⟩, by decide +kernel⟩
theorem lcal_X3_first : Cal yX3_first wsX3_first cX3_first 2 (some .int) RX3 1 := ⟨⟨_, rfl⟩, by decide +kernel⟩
theorem lcal_X4_first : Cal yX4_first wsX4_first cX4_first 2 (some .int) RX4 1 := ⟨⟨_, rfl⟩, by decide +kernel⟩
theorem lcal_X3_lasts : Cal yX3_lasts wsX3_lasts cX3_lasts 2 (some .int) RX3 1 := ⟨⟨_, rfl⟩, by decide +kernel⟩
theorem lcal_X4_lasts : Cal yX4_lasts wsX4_lasts cX4_lasts 2 (some .int) RX4 1 := ⟨⟨_, rfl⟩, by decide +kernel⟩
theorem lcal_X3_ends : Cal yX3_ends wsX3_ends cX3_ends 1 (some .int) RX3 0 := ⟨⟨_, rfl⟩, by decide +kernel⟩
theorem lcal_X4_ends : Cal yX4_ends wsX4_ends cX4_ends 1 (some .int) RX4 0 := ⟨⟨_, rfl⟩, by decide +kernel⟩
theorem lcal_X3_agree : Cal yX3_agree wsX3_agree cX3_agree 5 (some .int) RX3 1 := ⟨⟨_, rfl⟩, by decide +kernel⟩
theorem lcal_X4_agree : Cal yX4_agree wsX4_agree cX4_agree 5 (some .int) RX4 1 := ⟨⟨_, rfl⟩, by decide +kernel⟩
theorem lcal_X3_surprises : Cal yX3_surprises wsX3_surprises cX3_surprises 1 (some .int) RX3 0 := ⟨⟨_, rfl⟩, by decide +kernel⟩
theorem lcal_X4_surprises : Cal yX4_surprises wsX4_surprises cX4_surprises 1 (some .int) RX4 0 := ⟨⟨_, rfl⟩, by decide +kernel⟩
theorem lcal_X3_odds : Cal yX3_odds wsX3_odds cX3_odds 2 (some .int) RX3 1 := ⟨⟨_, rfl⟩, by decide +kernel⟩
theorem lcal_X4_odds : Cal yX4_odds wsX4_odds cX4_odds 2 (some .int) RX4 1 := ⟨⟨_, rfl⟩, by decide +kernel⟩
theorem lcal_X3_likeliest : Cal yX3_likeliest wsX3_likeliest cX3_likeliest 4 (some .int) RX3 0 := ⟨⟨_, rfl⟩, by decide +kernel⟩
theorem lcal_X4_likeliest : Cal yX4_likeliest wsX4_likeliest cX4_likeliest 3 (some .int) RX4 0 := ⟨⟨_, rfl⟩, by decide +kernel⟩
theorem lcal_X3_caught : Cal yX3_caught wsX3_caught cX3_caught 2 (some .int) RX3 0 := ⟨⟨_, rfl⟩, by decide +kernel⟩
theorem lcal_X4_caught : Cal yX4_caught wsX4_caught cX4_caught 2 (some .int) RX4 0 := ⟨⟨_, rfl⟩, by decide +kernel⟩
theorem lcal_X3_best : Cal yX3_best wsX3_best cX3_best 4 (some .int) RX3 2 := ⟨⟨_, rfl⟩, by decide +kernel⟩
theorem lcal_X4_best : Cal yX4_best wsX4_best cX4_best 3 (some .int) RX4 2 := ⟨⟨_, rfl⟩, by decide +kernel⟩
theorem lcal_X3_gain : Cal yX3_gain wsX3_gain cX3_gain 4 (some .int) RX3 2 := ⟨⟨_, rfl⟩, by decide +kernel⟩
theorem lcal_X4_gain : Cal yX4_gain wsX4_gain cX4_gain 3 (some .int) RX4 2 := ⟨⟨_, rfl⟩, by decide +kernel⟩
theorem lcal_X3_bet : Cal yX3_bet wsX3_bet cX3_bet 3 (some .int) RX3 1 := ⟨⟨_, rfl⟩, by decide +kernel⟩
theorem lcal_X4_bet : Cal yX4_bet wsX4_bet cX4_bet 3 (some .int) RX4 1 := ⟨⟨_, rfl⟩, by decide +kernel⟩
theorem lcal_X3_will : Cal yX3_will wsX3_will cX3_will 1 (some .int) RX3 0 := ⟨⟨_, rfl⟩, by decide +kernel⟩
theorem lcal_X4_will : Cal yX4_will wsX4_will cX4_will 1 (some .int) RX4 0 := ⟨⟨_, rfl⟩, by decide +kernel⟩
theorem lcal_X3_spoils : Cal yX3_spoils wsX3_spoils cX3_spoils 2 (some .int) RX3 1 := ⟨⟨_, rfl⟩, by decide +kernel⟩
theorem lcal_X4_spoils : Cal yX4_spoils wsX4_spoils cX4_spoils 2 (some .int) RX4 1 := ⟨⟨_, rfl⟩, by decide +kernel⟩
theorem lcal_X3_spoiler : Cal yX3_spoiler wsX3_spoiler cX3_spoiler 5 (some .int) RX3 0 := ⟨⟨_, rfl⟩, by decide +kernel⟩
theorem lcal_X4_spoiler : Cal yX4_spoiler wsX4_spoiler cX4_spoiler 3 (some .int) RX4 0 := ⟨⟨_, rfl⟩, by decide +kernel⟩
theorem lcal_X3_deeper : Cal yX3_deeper wsX3_deeper cX3_deeper 4 (some .int) RX3 2 := ⟨⟨_, rfl⟩, by decide +kernel⟩
theorem lcal_X4_deeper : Cal yX4_deeper wsX4_deeper cX4_deeper 6 (some .int) RX4 2 := ⟨⟨_, rfl⟩, by decide +kernel⟩
theorem lcal_X3_foresees : Cal yX3_foresees wsX3_foresees cX3_foresees 3 (some .int) RX3 2 := ⟨⟨_, rfl⟩, by decide +kernel⟩
theorem lcal_X4_foresees : Cal yX4_foresees wsX4_foresees cX4_foresees 3 (some .int) RX4 2 := ⟨⟨_, rfl⟩, by decide +kernel⟩
theorem lcal_X3_foreseen : Cal yX3_foreseen wsX3_foreseen cX3_foreseen 4 (some .int) RX3 1 := ⟨⟨_, rfl⟩, by decide +kernel⟩
theorem lcal_X4_foreseen : Cal yX4_foreseen wsX4_foreseen cX4_foreseen 4 (some .int) RX4 1 := ⟨⟨_, rfl⟩, by decide +kernel⟩
theorem lcal_X3_deepest : Cal yX3_deepest wsX3_deepest cX3_deepest 3 (some .int) RX3 0 := ⟨⟨_, rfl⟩, by decide +kernel⟩
theorem lcal_X4_deepest : Cal yX4_deepest wsX4_deepest cX4_deepest 3 (some .int) RX4 0 := ⟨⟨_, rfl⟩, by decide +kernel⟩
theorem lcal_X3_asleep : Cal yX3_asleep wsX3_asleep cX3_asleep 4 (some .int) RX3 1 := ⟨⟨_, rfl⟩, by decide +kernel⟩
theorem lcal_X4_asleep : Cal yX4_asleep wsX4_asleep cX4_asleep 4 (some .int) RX4 1 := ⟨⟨_, rfl⟩, by decide +kernel⟩
theorem lcal_X3_crowd : Cal yX3_crowd wsX3_crowd cX3_crowd 3 (some .int) RX3 1 := ⟨⟨_, rfl⟩, by decide +kernel⟩
theorem lcal_X4_crowd : Cal yX4_crowd wsX4_crowd cX4_crowd 3 (some .int) RX4 1 := ⟨⟨_, rfl⟩, by decide +kernel⟩
theorem lcal_X3_level : Cal yX3_level wsX3_level cX3_level 2 (some .int) RX3 1 := ⟨⟨_, rfl⟩, by decide +kernel⟩
theorem lcal_X4_level : Cal yX4_level wsX4_level cX4_level 2 (some .int) RX4 1 := ⟨⟨_, rfl⟩, by decide +kernel⟩
theorem lcal_X3_longest : Cal yX3_longest wsX3_longest cX3_longest 5 (some .int) RX3 0 := ⟨⟨_, rfl⟩, by decide +kernel⟩
theorem lcal_X4_longest : Cal yX4_longest wsX4_longest cX4_longest 3 (some .int) RX4 0 := ⟨⟨_, rfl⟩, by decide +kernel⟩
theorem lcal_X3_leave : Cal yX3_leave wsX3_leave cX3_leave 1 (some .int) RX3 0 := ⟨⟨_, rfl⟩, by decide +kernel⟩
theorem lcal_X4_leave : Cal yX4_leave wsX4_leave cX4_leave 2 (some .int) RX4 0 := ⟨⟨_, rfl⟩, by decide +kernel⟩
theorem lcal_X3_by : Cal yX3_by wsX3_by cX3_by 4 (some .int) RX3 1 := ⟨⟨_, rfl⟩, by decide +kernel⟩
theorem lcal_X4_by : Cal yX4_by wsX4_by cX4_by 3 (some .int) RX4 1 := ⟨⟨_, rfl⟩, by decide +kernel⟩
theorem lcal_X3_mean : Cal yX3_mean wsX3_mean cX3_mean 4 (some .int) RX3 0 := ⟨⟨_, rfl⟩, by decide +kernel⟩
theorem lcal_X4_mean : Cal yX4_mean wsX4_mean cX4_mean 4 (some .int) RX4 0 := ⟨⟨_, rfl⟩, by decide +kernel⟩
theorem lcal_X3_fair : Cal yX3_fair wsX3_fair cX3_fair 3 (some .int) RX3 1 := ⟨⟨_, rfl⟩, by decide +kernel⟩
theorem lcal_X4_fair : Cal yX4_fair wsX4_fair cX4_fair 3 (some .int) RX4 1 := ⟨⟨_, rfl⟩, by decide +kernel⟩
theorem lcal_X3_book : Cal yX3_book wsX3_book cX3_book 8 (some .int) RX3 2 := ⟨⟨_, rfl⟩, by decide +kernel⟩
theorem lcal_X4_book : Cal yX4_book wsX4_book cX4_book 10 (some .int) RX4 2 := ⟨⟨_, rfl⟩, by decide +kernel⟩
theorem lcal_X3_second : Cal yX3_second wsX3_second cX3_second 5 (some .int) RX3 2 := ⟨⟨_, rfl⟩, by decide +kernel⟩
theorem lcal_X4_second : Cal yX4_second wsX4_second cX4_second 5 (some .int) RX4 2 := ⟨⟨_, rfl⟩, by decide +kernel⟩
theorem lcal_X3_hints : Cal yX3_hints wsX3_hints cX3_hints 3 (some .int) RX3 1 := ⟨⟨_, rfl⟩, by decide +kernel⟩
theorem lcal_X4_hints : Cal yX4_hints wsX4_hints cX4_hints 7 (some .int) RX4 1 := ⟨⟨_, rfl⟩, by decide +kernel⟩
theorem lcal_X3_rules : Cal yX3_rules wsX3_rules cX3_rules 9 (some .int) RX3 3 := ⟨⟨_, rfl⟩, by decide +kernel⟩
theorem lcal_X4_rules : Cal yX4_rules wsX4_rules cX4_rules 11 (some .int) RX4 3 := ⟨⟨_, rfl⟩, by decide +kernel⟩
theorem lcal_X3_judge : Cal yX3_judge wsX3_judge cX3_judge 4 (some .int) RX3 1 := ⟨⟨_, rfl⟩, by decide +kernel⟩
theorem lcal_X4_judge : Cal yX4_judge wsX4_judge cX4_judge 4 (some .int) RX4 1 := ⟨⟨_, rfl⟩, by decide +kernel⟩
theorem lcal_X3_unlike : Cal yX3_unlike wsX3_unlike cX3_unlike 5 (some .int) RX3 1 := ⟨⟨_, rfl⟩, by decide +kernel⟩
theorem lcal_X4_unlike : Cal yX4_unlike wsX4_unlike cX4_unlike 5 (some .int) RX4 1 := ⟨⟨_, rfl⟩, by decide +kernel⟩
theorem lcal_X3_ring : Cal yX3_ring wsX3_ring cX3_ring 1 (some .int) RX3 0 := ⟨⟨_, rfl⟩, by decide +kernel⟩
theorem lcal_X4_ring : Cal yX4_ring wsX4_ring cX4_ring 5 (some .int) RX4 0 := ⟨⟨_, rfl⟩, by decide +kernel⟩
theorem lcal_X3_rings : Cal yX3_rings wsX3_rings cX3_rings 4 (some .int) RX3 1 := ⟨⟨_, rfl⟩, by decide +kernel⟩
theorem lcal_X4_rings : Cal yX4_rings wsX4_rings cX4_rings 4 (some .int) RX4 1 := ⟨⟨_, rfl⟩, by decide +kernel⟩
theorem lcal_X3_learn : Cal yX3_learn wsX3_learn cX3_learn 4 (some .int) RX3 2 := ⟨⟨_, rfl⟩, by decide +kernel⟩
theorem lcal_X4_learn : Cal yX4_learn wsX4_learn cX4_learn 4 (some .int) RX4 2 := ⟨⟨_, rfl⟩, by decide +kernel⟩
theorem lcal_X3_seed : Cal yX3_seed wsX3_seed cX3_seed 3 (some .int) RX3 1 := ⟨⟨_, rfl⟩, by decide +kernel⟩
theorem lcal_X4_seed : Cal yX4_seed wsX4_seed cX4_seed 3 (some .int) RX4 1 := ⟨⟨_, rfl⟩, by decide +kernel⟩
theorem lcal_X3_image : Cal yX3_image wsX3_image cX3_image 1 (some .int) RX3 0 := ⟨⟨_, rfl⟩, by decide +kernel⟩
theorem lcal_X4_image : Cal yX4_image wsX4_image cX4_image 1 (some .int) RX4 0 := ⟨⟨_, rfl⟩, by decide +kernel⟩
theorem lcal_X3_back : Cal yX3_back wsX3_back cX3_back 1 (some .int) RX3 0 := ⟨⟨_, rfl⟩, by decide +kernel⟩
theorem lcal_X4_back : Cal yX4_back wsX4_back cX4_back 2 (some .int) RX4 0 := ⟨⟨_, rfl⟩, by decide +kernel⟩
theorem lcal_X3_status : Cal yX3_status wsX3_status cX3_status 2 (some .int) RX3 1 := ⟨⟨_, rfl⟩, by decide +kernel⟩
theorem lcal_X4_status : Cal yX4_status wsX4_status cX4_status 4 (some .int) RX4 1 := ⟨⟨_, rfl⟩, by decide +kernel⟩
set_option maxHeartbeats 4000000 in
set_option maxRecDepth 100000 in
theorem lwz_0 {Γ : GT} {g : gT} {b0 L : Nat} {xs : Nat → Int32} (X : Cx Γ g 4 cL_law RL wsL_law) (S : Sx Γ b0 L xs) (hL : L ≤ 3072) {i : Nat} (hi : i + 6 ≤ L) {ad ad2 : Nat → Nat} {B : Bx} {J : Jx} {J2 : Mx} (hB : bOk B) (hm : mOk B J2) (kk : LK Γ g b0 i ad ad2) : Go Γ g 4 room_1 46 1431 (LX g ad ad2 B J B J2) 292 [(3, .int (nI i)), (2, .ref (ad2 0)), (1, .ref (ad 0)), (0, .ref b0)] [] := by
  obtain ⟨N, K, b, z, le, rf, hd, ln, vl⟩ := B
  obtain ⟨T, ts, te, tk0, br⟩ := J
  obtain ⟨aw, at1, tk, so, va, lm, ol, ah, lt, lo⟩ := J2
  obtain rfl : aw = 6 := hm.1
  refine Go.aload_n X 2 dL_law_292 rfl ?_
  refine Go.arg X S 1 dL_law_293 dL_law_294 dL_law_295 dL_law_296 dL_law_297 rfl (by omega) hL ?_
  refine Go.arg X S 2 dL_law_298 dL_law_299 dL_law_300 dL_law_301 dL_law_302 rfl (by omega) hL ?_
  refine Go.arg X S 3 dL_law_303 dL_law_304 dL_law_305 dL_law_306 dL_law_307 rfl (by omega) hL ?_
  refine Go.callC X (b_row g ad N K b z le rf hd ln vl T ts te tk0 br (xs (i + 1)) (xs (i + 2)) (xs (i + 3))) lcal_X3_row gL_law_X3_row rfl rfl rfl dL_law_308 (fun J9 => ?_)
  refine Go.aload_n X 1 dL_law_311 rfl ?_
  refine Go.arg X S 1 dL_law_312 dL_law_313 dL_law_314 dL_law_315 dL_law_316 rfl (by omega) hL ?_
  refine Go.arg X S 2 dL_law_317 dL_law_318 dL_law_319 dL_law_320 dL_law_321 rfl (by omega) hL ?_
  refine Go.arg X S 3 dL_law_322 dL_law_323 dL_law_324 dL_law_325 dL_law_326 rfl (by omega) hL ?_
  refine Go.callM X (e_row g ad2 N K b z le rf hd ln vl at1 tk so va lm ol ah lt lo (xs (i + 1)) (xs (i + 2)) (xs (i + 3)) hm) lcal_X4_row gL_law_X4_row rfl rfl rfl dL_law_327 (fun J4 hJ => ?_)
  exact Go.icmp_eq X 1852 dL_law_330 rfl (fun _ => kk _ _ _ (k_row hB (xs (i + 1)) (xs (i + 2)) (xs (i + 3))) hJ) (fun h => absurd rfl h)
set_option maxHeartbeats 4000000 in
set_option maxRecDepth 100000 in
theorem lwz_1 {Γ : GT} {g : gT} {b0 L : Nat} {xs : Nat → Int32} (X : Cx Γ g 4 cL_law RL wsL_law) (S : Sx Γ b0 L xs) (hL : L ≤ 3072) {i : Nat} (hi : i + 6 ≤ L) {ad ad2 : Nat → Nat} {B : Bx} {J : Jx} {J2 : Mx} (hB : bOk B) (hm : mOk B J2) (kk : LK Γ g b0 i ad ad2) : Go Γ g 4 room_1 46 1431 (LX g ad ad2 B J B J2) 335 [(3, .int (nI i)), (2, .ref (ad2 0)), (1, .ref (ad 0)), (0, .ref b0)] [] := by
  obtain ⟨N, K, b, z, le, rf, hd, ln, vl⟩ := B
  obtain ⟨T, ts, te, tk0, br⟩ := J
  obtain ⟨aw, at1, tk, so, va, lm, ol, ah, lt, lo⟩ := J2
  obtain rfl : aw = 6 := hm.1
  refine Go.aload_n X 2 dL_law_335 rfl ?_
  refine Go.arg X S 1 dL_law_336 dL_law_337 dL_law_338 dL_law_339 dL_law_340 rfl (by omega) hL ?_
  refine Go.arg X S 2 dL_law_341 dL_law_342 dL_law_343 dL_law_344 dL_law_345 rfl (by omega) hL ?_
  refine Go.arg X S 3 dL_law_346 dL_law_347 dL_law_348 dL_law_349 dL_law_350 rfl (by omega) hL ?_
  refine Go.i2l X _ dL_law_351 rfl ?_
  refine Go.bipush X 32 dL_law_352 (by decide) ?_
  refine Go.lshl X _ dL_law_354 rfl ?_
  refine Go.arg X S 4 dL_law_355 dL_law_356 dL_law_357 dL_law_358 dL_law_359 rfl (by omega) hL ?_
  refine Go.i2l X _ dL_law_360 rfl ?_
  refine Go.ldc2 X 4294967295 dL_law_361 (List.mem_of_getElem? (i := 6) (by decide +kernel)) ?_
  refine Go.land X _ dL_law_364 rfl ?_
  refine Go.lor X _ dL_law_365 rfl ?_
  refine Go.callC X (b_set g ad N K b z le rf hd ln vl T ts te tk0 br (xs (i + 1)) (xs (i + 2)) (((xs (i + 3)).toInt64 <<< ((32 : Int32).toInt64 &&& 63)) ||| ((xs (i + 4)).toInt64 &&& (4294967295 : Int64))) hB.2.2.2.2.1) lcal_X3_set gL_law_X3_set rfl rfl rfl dL_law_366 (fun J9 => ?_)
  refine Go.aload_n X 1 dL_law_369 rfl ?_
  refine Go.arg X S 1 dL_law_370 dL_law_371 dL_law_372 dL_law_373 dL_law_374 rfl (by omega) hL ?_
  refine Go.arg X S 2 dL_law_375 dL_law_376 dL_law_377 dL_law_378 dL_law_379 rfl (by omega) hL ?_
  refine Go.arg X S 3 dL_law_380 dL_law_381 dL_law_382 dL_law_383 dL_law_384 rfl (by omega) hL ?_
  refine Go.i2l X _ dL_law_385 rfl ?_
  refine Go.bipush X 32 dL_law_386 (by decide) ?_
  refine Go.lshl X _ dL_law_388 rfl ?_
  refine Go.arg X S 4 dL_law_389 dL_law_390 dL_law_391 dL_law_392 dL_law_393 rfl (by omega) hL ?_
  refine Go.i2l X _ dL_law_394 rfl ?_
  refine Go.ldc2 X 4294967295 dL_law_395 (List.mem_of_getElem? (i := 6) (by decide +kernel)) ?_
  refine Go.land X _ dL_law_398 rfl ?_
  refine Go.lor X _ dL_law_399 rfl ?_
  refine Go.callM X (e_set g ad2 N K b z le rf hd ln vl at1 tk so va lm ol ah lt lo (xs (i + 1)) (xs (i + 2)) (((xs (i + 3)).toInt64 <<< ((32 : Int32).toInt64 &&& 63)) ||| ((xs (i + 4)).toInt64 &&& (4294967295 : Int64))) hB.1 hB.2.2.2.2.2 hB.2.2.2.2.1 hm) lcal_X4_set gL_law_X4_set rfl rfl rfl dL_law_400 (fun J4 hJ => ?_)
  exact Go.icmp_eq X 1852 dL_law_403 rfl (fun _ => kk _ _ _ (k_set hB (xs (i + 1)) (xs (i + 2)) (((xs (i + 3)).toInt64 <<< ((32 : Int32).toInt64 &&& 63)) ||| ((xs (i + 4)).toInt64 &&& (4294967295 : Int64)))) hJ) (fun h => absurd rfl h)
set_option maxHeartbeats 4000000 in
set_option maxRecDepth 100000 in
theorem lwz_2 {Γ : GT} {g : gT} {b0 L : Nat} {xs : Nat → Int32} (X : Cx Γ g 4 cL_law RL wsL_law) (S : Sx Γ b0 L xs) (hL : L ≤ 3072) {i : Nat} (hi : i + 6 ≤ L) {ad ad2 : Nat → Nat} {B : Bx} {J : Jx} {J2 : Mx} (hB : bOk B) (hm : mOk B J2) (kk : LK Γ g b0 i ad ad2) : Go Γ g 4 room_1 46 1431 (LX g ad ad2 B J B J2) 408 [(3, .int (nI i)), (2, .ref (ad2 0)), (1, .ref (ad 0)), (0, .ref b0)] [] := by
  obtain ⟨N, K, b, z, le, rf, hd, ln, vl⟩ := B
  obtain ⟨T, ts, te, tk0, br⟩ := J
  obtain ⟨aw, at1, tk, so, va, lm, ol, ah, lt, lo⟩ := J2
  obtain rfl : aw = 6 := hm.1
  refine Go.aload_n X 2 dL_law_408 rfl ?_
  refine Go.arg X S 1 dL_law_409 dL_law_410 dL_law_411 dL_law_412 dL_law_413 rfl (by omega) hL ?_
  refine Go.arg X S 2 dL_law_414 dL_law_415 dL_law_416 dL_law_417 dL_law_418 rfl (by omega) hL ?_
  refine Go.arg X S 3 dL_law_419 dL_law_420 dL_law_421 dL_law_422 dL_law_423 rfl (by omega) hL ?_
  refine Go.arg X S 4 dL_law_424 dL_law_425 dL_law_426 dL_law_427 dL_law_428 rfl (by omega) hL ?_
  refine Go.arg X S 5 dL_law_429 dL_law_430 dL_law_431 dL_law_432 dL_law_433 rfl (by omega) hL ?_
  refine Go.callC X (b_copy g ad N K b z le rf hd ln vl T ts te tk0 br (xs (i + 1)) (xs (i + 2)) (xs (i + 3)) (xs (i + 4)) (xs (i + 5)) hB.2.2.2.2.1) lcal_X3_copy gL_law_X3_copy rfl rfl rfl dL_law_434 (fun J9 => ?_)
  refine Go.aload_n X 1 dL_law_437 rfl ?_
  refine Go.arg X S 1 dL_law_438 dL_law_439 dL_law_440 dL_law_441 dL_law_442 rfl (by omega) hL ?_
  refine Go.arg X S 2 dL_law_443 dL_law_444 dL_law_445 dL_law_446 dL_law_447 rfl (by omega) hL ?_
  refine Go.arg X S 3 dL_law_448 dL_law_449 dL_law_450 dL_law_451 dL_law_452 rfl (by omega) hL ?_
  refine Go.arg X S 4 dL_law_453 dL_law_454 dL_law_455 dL_law_456 dL_law_457 rfl (by omega) hL ?_
  refine Go.arg X S 5 dL_law_458 dL_law_459 dL_law_460 dL_law_461 dL_law_462 rfl (by omega) hL ?_
  refine Go.callM X (e_copy g ad2 N K b z le rf hd ln vl at1 tk so va lm ol ah lt lo (xs (i + 1)) (xs (i + 2)) (xs (i + 3)) (xs (i + 4)) (xs (i + 5)) hB.1 hB.2.2.2.2.2 hB.2.2.2.2.1 hm) lcal_X4_copy gL_law_X4_copy rfl rfl rfl dL_law_463 (fun J4 hJ => ?_)
  exact Go.icmp_eq X 1852 dL_law_466 rfl (fun _ => kk _ _ _ (k_copy hB (xs (i + 1)) (xs (i + 2)) (xs (i + 3)) (xs (i + 4)) (xs (i + 5))) hJ) (fun h => absurd rfl h)
set_option maxHeartbeats 4000000 in
set_option maxRecDepth 100000 in
theorem lwz_3 {Γ : GT} {g : gT} {b0 L : Nat} {xs : Nat → Int32} (X : Cx Γ g 4 cL_law RL wsL_law) (S : Sx Γ b0 L xs) (hL : L ≤ 3072) {i : Nat} (hi : i + 6 ≤ L) {ad ad2 : Nat → Nat} {B : Bx} {J : Jx} {J2 : Mx} (hB : bOk B) (hm : mOk B J2) (kk : LK Γ g b0 i ad ad2) : Go Γ g 4 room_1 46 1431 (LX g ad ad2 B J B J2) 471 [(3, .int (nI i)), (2, .ref (ad2 0)), (1, .ref (ad 0)), (0, .ref b0)] [] := by
  obtain ⟨N, K, b, z, le, rf, hd, ln, vl⟩ := B
  obtain ⟨T, ts, te, tk0, br⟩ := J
  obtain ⟨aw, at1, tk, so, va, lm, ol, ah, lt, lo⟩ := J2
  obtain rfl : aw = 6 := hm.1
  refine Go.aload_n X 2 dL_law_471 rfl ?_
  refine Go.arg X S 1 dL_law_472 dL_law_473 dL_law_474 dL_law_475 dL_law_476 rfl (by omega) hL ?_
  refine Go.arg X S 2 dL_law_477 dL_law_478 dL_law_479 dL_law_480 dL_law_481 rfl (by omega) hL ?_
  refine Go.callC X (b_element g ad N K b z le rf hd ln vl T ts te tk0 br (xs (i + 1)) (xs (i + 2)) hB.2.2.2.2.1) lcal_X3_element gL_law_X3_element rfl rfl rfl dL_law_482 (fun J9 => ?_)
  refine Go.aload_n X 1 dL_law_485 rfl ?_
  refine Go.arg X S 1 dL_law_486 dL_law_487 dL_law_488 dL_law_489 dL_law_490 rfl (by omega) hL ?_
  refine Go.arg X S 2 dL_law_491 dL_law_492 dL_law_493 dL_law_494 dL_law_495 rfl (by omega) hL ?_
  refine Go.callM X (e_element g ad2 N K b z le rf hd ln vl at1 tk so va lm ol ah lt lo (xs (i + 1)) (xs (i + 2)) hB.2.2.2.2.1 hm) lcal_X4_element gL_law_X4_element rfl rfl rfl dL_law_496 (fun J4 hJ => ?_)
  refine Go.lcmp X dL_law_499 ?_
  exact Go.if_eq X 1852 dL_law_500 rfl (fun _ => kk _ _ _ (k_element hB (xs (i + 1)) (xs (i + 2))) hJ) (fun h => absurd (lg_same _) h)
set_option maxHeartbeats 4000000 in
set_option maxRecDepth 100000 in
theorem lwz_4 {Γ : GT} {g : gT} {b0 L : Nat} {xs : Nat → Int32} (X : Cx Γ g 4 cL_law RL wsL_law) (S : Sx Γ b0 L xs) (hL : L ≤ 3072) {i : Nat} (hi : i + 6 ≤ L) {ad ad2 : Nat → Nat} {B : Bx} {J : Jx} {J2 : Mx} (hB : bOk B) (hm : mOk B J2) (kk : LK Γ g b0 i ad ad2) : Go Γ g 4 room_1 46 1431 (LX g ad ad2 B J B J2) 505 [(3, .int (nI i)), (2, .ref (ad2 0)), (1, .ref (ad 0)), (0, .ref b0)] [] := by
  obtain ⟨N, K, b, z, le, rf, hd, ln, vl⟩ := B
  obtain ⟨T, ts, te, tk0, br⟩ := J
  obtain ⟨aw, at1, tk, so, va, lm, ol, ah, lt, lo⟩ := J2
  obtain rfl : aw = 6 := hm.1
  refine Go.aload_n X 2 dL_law_505 rfl ?_
  refine Go.arg X S 1 dL_law_506 dL_law_507 dL_law_508 dL_law_509 dL_law_510 rfl (by omega) hL ?_
  refine Go.callC X (b_holds g ad N K b z le rf hd ln vl T ts te tk0 br (xs (i + 1))) lcal_X3_holds gL_law_X3_holds rfl rfl rfl dL_law_511 (fun J9 => ?_)
  refine Go.aload_n X 1 dL_law_514 rfl ?_
  refine Go.arg X S 1 dL_law_515 dL_law_516 dL_law_517 dL_law_518 dL_law_519 rfl (by omega) hL ?_
  refine Go.callM X (e_holds g ad2 N K b z le rf hd ln vl at1 tk so va lm ol ah lt lo (xs (i + 1)) hm) lcal_X4_holds gL_law_X4_holds rfl rfl rfl dL_law_520 (fun J4 hJ => ?_)
  exact Go.icmp_eq X 1852 dL_law_523 rfl (fun _ => kk _ _ _ (k_holds hB (xs (i + 1))) hJ) (fun h => absurd rfl h)
set_option maxHeartbeats 4000000 in
set_option maxRecDepth 100000 in
theorem lwz_5 {Γ : GT} {g : gT} {b0 L : Nat} {xs : Nat → Int32} (X : Cx Γ g 4 cL_law RL wsL_law) (S : Sx Γ b0 L xs) (hL : L ≤ 3072) {i : Nat} (hi : i + 6 ≤ L) {ad ad2 : Nat → Nat} {B : Bx} {J : Jx} {J2 : Mx} (hB : bOk B) (hm : mOk B J2) (kk : LK Γ g b0 i ad ad2) : Go Γ g 4 room_1 46 1431 (LX g ad ad2 B J B J2) 528 [(3, .int (nI i)), (2, .ref (ad2 0)), (1, .ref (ad 0)), (0, .ref b0)] [] := by
  obtain ⟨N, K, b, z, le, rf, hd, ln, vl⟩ := B
  obtain ⟨T, ts, te, tk0, br⟩ := J
  obtain ⟨aw, at1, tk, so, va, lm, ol, ah, lt, lo⟩ := J2
  obtain rfl : aw = 6 := hm.1
  refine Go.aload_n X 2 dL_law_528 rfl ?_
  refine Go.arg X S 1 dL_law_529 dL_law_530 dL_law_531 dL_law_532 dL_law_533 rfl (by omega) hL ?_
  refine Go.arg X S 2 dL_law_534 dL_law_535 dL_law_536 dL_law_537 dL_law_538 rfl (by omega) hL ?_
  refine Go.callC X (b_show g ad N K b z le rf hd ln vl T ts te tk0 br (xs (i + 1)) (xs (i + 2)) hB.1) lcal_X3_show gL_law_X3_show rfl rfl rfl dL_law_539 (fun J9 => ?_)
  refine Go.aload_n X 1 dL_law_542 rfl ?_
  refine Go.arg X S 1 dL_law_543 dL_law_544 dL_law_545 dL_law_546 dL_law_547 rfl (by omega) hL ?_
  refine Go.arg X S 2 dL_law_548 dL_law_549 dL_law_550 dL_law_551 dL_law_552 rfl (by omega) hL ?_
  refine Go.callM X (e_show g ad2 N K b z le rf hd ln vl at1 tk so va lm ol ah lt lo (xs (i + 1)) (xs (i + 2)) hB.1 hB.2.2.2.2.2 hm) lcal_X4_show gL_law_X4_show rfl rfl rfl dL_law_553 (fun J4 hJ => ?_)
  exact Go.icmp_eq X 1852 dL_law_556 rfl (fun _ => kk _ _ _ (k_show hB (xs (i + 1)) (xs (i + 2))) hJ) (fun h => absurd rfl h)
set_option maxHeartbeats 4000000 in
set_option maxRecDepth 100000 in
theorem lwz_6 {Γ : GT} {g : gT} {b0 L : Nat} {xs : Nat → Int32} (X : Cx Γ g 4 cL_law RL wsL_law) (S : Sx Γ b0 L xs) (hL : L ≤ 3072) {i : Nat} (hi : i + 6 ≤ L) {ad ad2 : Nat → Nat} {B : Bx} {J : Jx} {J2 : Mx} (hB : bOk B) (hm : mOk B J2) (kk : LK Γ g b0 i ad ad2) : Go Γ g 4 room_1 46 1431 (LX g ad ad2 B J B J2) 561 [(3, .int (nI i)), (2, .ref (ad2 0)), (1, .ref (ad 0)), (0, .ref b0)] [] := by
  obtain ⟨N, K, b, z, le, rf, hd, ln, vl⟩ := B
  obtain ⟨T, ts, te, tk0, br⟩ := J
  obtain ⟨aw, at1, tk, so, va, lm, ol, ah, lt, lo⟩ := J2
  obtain rfl : aw = 6 := hm.1
  refine Go.aload_n X 2 dL_law_561 rfl ?_
  refine Go.arg X S 1 dL_law_562 dL_law_563 dL_law_564 dL_law_565 dL_law_566 rfl (by omega) hL ?_
  refine Go.arg X S 2 dL_law_567 dL_law_568 dL_law_569 dL_law_570 dL_law_571 rfl (by omega) hL ?_
  refine Go.callC X (b_says g ad N K b z le rf hd ln vl T ts te tk0 br (xs (i + 1)) (xs (i + 2)) hB.1) lcal_X3_says gL_law_X3_says rfl rfl rfl dL_law_572 (fun J9 => ?_)
  refine Go.aload_n X 1 dL_law_575 rfl ?_
  refine Go.arg X S 1 dL_law_576 dL_law_577 dL_law_578 dL_law_579 dL_law_580 rfl (by omega) hL ?_
  refine Go.arg X S 2 dL_law_581 dL_law_582 dL_law_583 dL_law_584 dL_law_585 rfl (by omega) hL ?_
  refine Go.callM X (e_says g ad2 N K b z le rf hd ln vl at1 tk so va lm ol ah lt lo (xs (i + 1)) (xs (i + 2)) hB.1 hB.2.2.2.2.2 hm) lcal_X4_says gL_law_X4_says rfl rfl rfl dL_law_586 (fun J4 hJ => ?_)
  exact Go.icmp_eq X 1852 dL_law_589 rfl (fun _ => kk _ _ _ (k_says hB (xs (i + 1)) (xs (i + 2))) hJ) (fun h => absurd rfl h)
set_option maxHeartbeats 4000000 in
set_option maxRecDepth 100000 in
theorem lwz_7 {Γ : GT} {g : gT} {b0 L : Nat} {xs : Nat → Int32} (X : Cx Γ g 4 cL_law RL wsL_law) (S : Sx Γ b0 L xs) (hL : L ≤ 3072) {i : Nat} (hi : i + 6 ≤ L) {ad ad2 : Nat → Nat} {B : Bx} {J : Jx} {J2 : Mx} (hB : bOk B) (hm : mOk B J2) (kk : LK Γ g b0 i ad ad2) : Go Γ g 4 room_1 46 1431 (LX g ad ad2 B J B J2) 594 [(3, .int (nI i)), (2, .ref (ad2 0)), (1, .ref (ad 0)), (0, .ref b0)] [] := by
  obtain ⟨N, K, b, z, le, rf, hd, ln, vl⟩ := B
  obtain ⟨T, ts, te, tk0, br⟩ := J
  obtain ⟨aw, at1, tk, so, va, lm, ol, ah, lt, lo⟩ := J2
  obtain rfl : aw = 6 := hm.1
  refine Go.aload_n X 2 dL_law_594 rfl ?_
  refine Go.arg X S 1 dL_law_595 dL_law_596 dL_law_597 dL_law_598 dL_law_599 rfl (by omega) hL ?_
  refine Go.callC X (b_term g ad N K b z le rf hd ln vl T ts te tk0 br (xs (i + 1)) hB.1) lcal_X3_term gL_law_X3_term rfl rfl rfl dL_law_600 (fun J9 => ?_)
  refine Go.aload_n X 1 dL_law_603 rfl ?_
  refine Go.arg X S 1 dL_law_604 dL_law_605 dL_law_606 dL_law_607 dL_law_608 rfl (by omega) hL ?_
  refine Go.callM X (e_term g ad2 N K b z le rf hd ln vl at1 tk so va lm ol ah lt lo (xs (i + 1)) hB.1 hB.2.2.2.2.2 hm) lcal_X4_term gL_law_X4_term rfl rfl rfl dL_law_609 (fun J4 hJ => ?_)
  exact Go.icmp_eq X 1852 dL_law_612 rfl (fun _ => kk _ _ _ (k_term hB (xs (i + 1))) hJ) (fun h => absurd rfl h)
set_option maxHeartbeats 4000000 in
set_option maxRecDepth 100000 in
theorem lwz_8 {Γ : GT} {g : gT} {b0 L : Nat} {xs : Nat → Int32} (X : Cx Γ g 4 cL_law RL wsL_law) (S : Sx Γ b0 L xs) (hL : L ≤ 3072) {i : Nat} (hi : i + 6 ≤ L) {ad ad2 : Nat → Nat} {B : Bx} {J : Jx} {J2 : Mx} (hB : bOk B) (hm : mOk B J2) (kk : LK Γ g b0 i ad ad2) : Go Γ g 4 room_1 46 1431 (LX g ad ad2 B J B J2) 617 [(3, .int (nI i)), (2, .ref (ad2 0)), (1, .ref (ad 0)), (0, .ref b0)] [] := by
  obtain ⟨N, K, b, z, le, rf, hd, ln, vl⟩ := B
  obtain ⟨T, ts, te, tk0, br⟩ := J
  obtain ⟨aw, at1, tk, so, va, lm, ol, ah, lt, lo⟩ := J2
  obtain rfl : aw = 6 := hm.1
  refine Go.aload_n X 2 dL_law_617 rfl ?_
  refine Go.arg X S 1 dL_law_618 dL_law_619 dL_law_620 dL_law_621 dL_law_622 rfl (by omega) hL ?_
  refine Go.arg X S 2 dL_law_623 dL_law_624 dL_law_625 dL_law_626 dL_law_627 rfl (by omega) hL ?_
  refine Go.callC X (b_person g ad N K b z le rf hd ln vl T ts te tk0 br (xs (i + 1)) (xs (i + 2)) hB.1) lcal_X3_person gL_law_X3_person rfl rfl rfl dL_law_628 (fun J9 => ?_)
  refine Go.aload_n X 1 dL_law_631 rfl ?_
  refine Go.arg X S 1 dL_law_632 dL_law_633 dL_law_634 dL_law_635 dL_law_636 rfl (by omega) hL ?_
  refine Go.arg X S 2 dL_law_637 dL_law_638 dL_law_639 dL_law_640 dL_law_641 rfl (by omega) hL ?_
  refine Go.callM X (e_person g ad2 N K b z le rf hd ln vl at1 tk so va lm ol ah lt lo (xs (i + 1)) (xs (i + 2)) hB.1 hB.2.2.2.2.2 hm) lcal_X4_person gL_law_X4_person rfl rfl rfl dL_law_642 (fun J4 hJ => ?_)
  exact Go.icmp_eq X 1852 dL_law_645 rfl (fun _ => kk _ _ _ (k_person hB (xs (i + 1)) (xs (i + 2))) hJ) (fun h => absurd rfl h)
set_option maxHeartbeats 4000000 in
set_option maxRecDepth 100000 in
theorem lwz_9 {Γ : GT} {g : gT} {b0 L : Nat} {xs : Nat → Int32} (X : Cx Γ g 4 cL_law RL wsL_law) (S : Sx Γ b0 L xs) (hL : L ≤ 3072) {i : Nat} (hi : i + 6 ≤ L) {ad ad2 : Nat → Nat} {B : Bx} {J : Jx} {J2 : Mx} (hB : bOk B) (hm : mOk B J2) (kk : LK Γ g b0 i ad ad2) : Go Γ g 4 room_1 46 1431 (LX g ad ad2 B J B J2) 650 [(3, .int (nI i)), (2, .ref (ad2 0)), (1, .ref (ad 0)), (0, .ref b0)] [] := by
  obtain ⟨N, K, b, z, le, rf, hd, ln, vl⟩ := B
  obtain ⟨T, ts, te, tk0, br⟩ := J
  obtain ⟨aw, at1, tk, so, va, lm, ol, ah, lt, lo⟩ := J2
  obtain rfl : aw = 6 := hm.1
  by_cases h0 : xs (i + 2) = 0
  · refine Go.aload_n X 2 dL_law_650 rfl ?_
    refine Go.arg X S 1 dL_law_651 dL_law_652 dL_law_653 dL_law_654 dL_law_655 rfl (by omega) hL ?_
    refine Go.arg X S 2 dL_law_656 dL_law_657 dL_law_658 dL_law_659 dL_law_660 rfl (by omega) hL ?_
    refine Go.if_eq X 668 dL_law_661 rfl (fun _ => ?_) (fun h => absurd h0 h)
    refine Go.iconst X (b2i false) dL_law_668 rfl ?_
    refine Go.callC X (b_allow g ad N K b z le rf hd ln vl T ts te tk0 br (xs (i + 1)) false hB.1) lcal_X3_allow gL_law_X3_allow rfl rfl rfl dL_law_669 (fun J9 => ?_)
    refine Go.aload_n X 1 dL_law_672 rfl ?_
    refine Go.arg X S 1 dL_law_673 dL_law_674 dL_law_675 dL_law_676 dL_law_677 rfl (by omega) hL ?_
    refine Go.arg X S 2 dL_law_678 dL_law_679 dL_law_680 dL_law_681 dL_law_682 rfl (by omega) hL ?_
    refine Go.if_eq X 690 dL_law_683 rfl (fun _ => ?_) (fun h => absurd h0 h)
    refine Go.iconst X (b2i false) dL_law_690 rfl ?_
    refine Go.callM X (e_allow g ad2 N K b z le rf hd ln vl at1 tk so va lm ol ah lt lo (xs (i + 1)) false hB.1 hB.2.2.2.2.2 hm) lcal_X4_allow gL_law_X4_allow rfl rfl rfl dL_law_691 (fun J4 hJ => ?_)
    exact Go.icmp_eq X 1852 dL_law_694 rfl (fun _ => kk _ _ _ (k_allow hB (xs (i + 1)) false) hJ) (fun h => absurd rfl h)
  · refine Go.aload_n X 2 dL_law_650 rfl ?_
    refine Go.arg X S 1 dL_law_651 dL_law_652 dL_law_653 dL_law_654 dL_law_655 rfl (by omega) hL ?_
    refine Go.arg X S 2 dL_law_656 dL_law_657 dL_law_658 dL_law_659 dL_law_660 rfl (by omega) hL ?_
    refine Go.if_eq X 668 dL_law_661 rfl (fun h => absurd h h0) (fun _ => ?_)
    refine Go.iconst X (b2i true) dL_law_664 rfl ?_
    refine Go.goto X 669 dL_law_665 rfl ?_
    refine Go.callC X (b_allow g ad N K b z le rf hd ln vl T ts te tk0 br (xs (i + 1)) true hB.1) lcal_X3_allow gL_law_X3_allow rfl rfl rfl dL_law_669 (fun J9 => ?_)
    refine Go.aload_n X 1 dL_law_672 rfl ?_
    refine Go.arg X S 1 dL_law_673 dL_law_674 dL_law_675 dL_law_676 dL_law_677 rfl (by omega) hL ?_
    refine Go.arg X S 2 dL_law_678 dL_law_679 dL_law_680 dL_law_681 dL_law_682 rfl (by omega) hL ?_
    refine Go.if_eq X 690 dL_law_683 rfl (fun h => absurd h h0) (fun _ => ?_)
    refine Go.iconst X (b2i true) dL_law_686 rfl ?_
    refine Go.goto X 691 dL_law_687 rfl ?_
    refine Go.callM X (e_allow g ad2 N K b z le rf hd ln vl at1 tk so va lm ol ah lt lo (xs (i + 1)) true hB.1 hB.2.2.2.2.2 hm) lcal_X4_allow gL_law_X4_allow rfl rfl rfl dL_law_691 (fun J4 hJ => ?_)
    exact Go.icmp_eq X 1852 dL_law_694 rfl (fun _ => kk _ _ _ (k_allow hB (xs (i + 1)) true) hJ) (fun h => absurd rfl h)
set_option maxHeartbeats 4000000 in
set_option maxRecDepth 100000 in
theorem lwz_10 {Γ : GT} {g : gT} {b0 L : Nat} {xs : Nat → Int32} (X : Cx Γ g 4 cL_law RL wsL_law) (S : Sx Γ b0 L xs) (hL : L ≤ 3072) {i : Nat} (hi : i + 6 ≤ L) {ad ad2 : Nat → Nat} {B : Bx} {J : Jx} {J2 : Mx} (hB : bOk B) (hm : mOk B J2) (kk : LK Γ g b0 i ad ad2) : Go Γ g 4 room_1 46 1431 (LX g ad ad2 B J B J2) 699 [(3, .int (nI i)), (2, .ref (ad2 0)), (1, .ref (ad 0)), (0, .ref b0)] [] := by
  obtain ⟨N, K, b, z, le, rf, hd, ln, vl⟩ := B
  obtain ⟨T, ts, te, tk0, br⟩ := J
  obtain ⟨aw, at1, tk, so, va, lm, ol, ah, lt, lo⟩ := J2
  obtain rfl : aw = 6 := hm.1
  refine Go.aload_n X 2 dL_law_699 rfl ?_
  refine Go.arg X S 1 dL_law_700 dL_law_701 dL_law_702 dL_law_703 dL_law_704 rfl (by omega) hL ?_
  refine Go.arg X S 2 dL_law_705 dL_law_706 dL_law_707 dL_law_708 dL_law_709 rfl (by omega) hL ?_
  refine Go.callC X (b_weight g ad N K b z le rf hd ln vl T ts te tk0 br (xs (i + 1)) (xs (i + 2)) hB.1) lcal_X3_weight gL_law_X3_weight rfl rfl rfl dL_law_710 (fun J9 => ?_)
  refine Go.aload_n X 1 dL_law_713 rfl ?_
  refine Go.arg X S 1 dL_law_714 dL_law_715 dL_law_716 dL_law_717 dL_law_718 rfl (by omega) hL ?_
  refine Go.arg X S 2 dL_law_719 dL_law_720 dL_law_721 dL_law_722 dL_law_723 rfl (by omega) hL ?_
  refine Go.callM X (e_weight g ad2 N K b z le rf hd ln vl at1 tk so va lm ol ah lt lo (xs (i + 1)) (xs (i + 2)) hB.1 hB.2.2.2.2.2 hm) lcal_X4_weight gL_law_X4_weight rfl rfl rfl dL_law_724 (fun J4 hJ => ?_)
  exact Go.icmp_eq X 1852 dL_law_727 rfl (fun _ => kk _ _ _ (k_weight hB (xs (i + 1)) (xs (i + 2))) hJ) (fun h => absurd rfl h)
set_option maxHeartbeats 4000000 in
set_option maxRecDepth 100000 in
theorem lwz_11 {Γ : GT} {g : gT} {b0 L : Nat} {xs : Nat → Int32} (X : Cx Γ g 4 cL_law RL wsL_law) (S : Sx Γ b0 L xs) (hL : L ≤ 3072) {i : Nat} (hi : i + 6 ≤ L) {ad ad2 : Nat → Nat} {B : Bx} {J : Jx} {J2 : Mx} (hB : bOk B) (hm : mOk B J2) (kk : LK Γ g b0 i ad ad2) : Go Γ g 4 room_1 46 1431 (LX g ad ad2 B J B J2) 732 [(3, .int (nI i)), (2, .ref (ad2 0)), (1, .ref (ad 0)), (0, .ref b0)] [] := by
  obtain ⟨N, K, b, z, le, rf, hd, ln, vl⟩ := B
  obtain ⟨T, ts, te, tk0, br⟩ := J
  obtain ⟨aw, at1, tk, so, va, lm, ol, ah, lt, lo⟩ := J2
  obtain rfl : aw = 6 := hm.1
  refine Go.aload_n X 2 dL_law_732 rfl ?_
  refine Go.callC X (b_say g ad N K b z le rf hd ln vl T ts te tk0 br hB.1) lcal_X3_say gL_law_X3_say rfl rfl rfl dL_law_733 (fun J9 => ?_)
  refine Go.aload_n X 1 dL_law_736 rfl ?_
  refine Go.callM X (e_say g ad2 N K b z le rf hd ln vl at1 tk so va lm ol ah lt lo hB.1 hB.2.2.2.2.2 hm) lcal_X4_say gL_law_X4_say rfl rfl rfl dL_law_737 (fun J4 hJ => ?_)
  exact Go.icmp_eq X 1852 dL_law_740 rfl (fun _ => kk _ _ _ (k_say hB) hJ) (fun h => absurd rfl h)
set_option maxHeartbeats 4000000 in
set_option maxRecDepth 100000 in
theorem lwz_12 {Γ : GT} {g : gT} {b0 L : Nat} {xs : Nat → Int32} (X : Cx Γ g 4 cL_law RL wsL_law) (S : Sx Γ b0 L xs) (hL : L ≤ 3072) {i : Nat} (hi : i + 6 ≤ L) {ad ad2 : Nat → Nat} {B : Bx} {J : Jx} {J2 : Mx} (hB : bOk B) (hm : mOk B J2) (kk : LK Γ g b0 i ad ad2) : Go Γ g 4 room_1 46 1431 (LX g ad ad2 B J B J2) 745 [(3, .int (nI i)), (2, .ref (ad2 0)), (1, .ref (ad 0)), (0, .ref b0)] [] := by
  obtain ⟨N, K, b, z, le, rf, hd, ln, vl⟩ := B
  obtain ⟨T, ts, te, tk0, br⟩ := J
  obtain ⟨aw, at1, tk, so, va, lm, ol, ah, lt, lo⟩ := J2
  obtain rfl : aw = 6 := hm.1
  refine Go.aload_n X 2 dL_law_745 rfl ?_
  refine Go.arg X S 1 dL_law_746 dL_law_747 dL_law_748 dL_law_749 dL_law_750 rfl (by omega) hL ?_
  refine Go.callC X (b_unsay g ad N K b z le rf hd ln vl T ts te tk0 br (xs (i + 1)) hB.1) lcal_X3_unsay gL_law_X3_unsay rfl rfl rfl dL_law_751 (fun J9 => ?_)
  refine Go.aload_n X 1 dL_law_754 rfl ?_
  refine Go.arg X S 1 dL_law_755 dL_law_756 dL_law_757 dL_law_758 dL_law_759 rfl (by omega) hL ?_
  refine Go.callM X (e_unsay g ad2 N K b z le rf hd ln vl at1 tk so va lm ol ah lt lo (xs (i + 1)) hB.1 hB.2.2.2.2.2 hm) lcal_X4_unsay gL_law_X4_unsay rfl rfl rfl dL_law_760 (fun J4 hJ => ?_)
  exact Go.icmp_eq X 1852 dL_law_763 rfl (fun _ => kk _ _ _ (k_unsay hB (xs (i + 1))) hJ) (fun h => absurd rfl h)
set_option maxHeartbeats 4000000 in
set_option maxRecDepth 100000 in
theorem lwz_13 {Γ : GT} {g : gT} {b0 L : Nat} {xs : Nat → Int32} (X : Cx Γ g 4 cL_law RL wsL_law) (S : Sx Γ b0 L xs) (hL : L ≤ 3072) {i : Nat} (hi : i + 6 ≤ L) {ad ad2 : Nat → Nat} {B : Bx} {J : Jx} {J2 : Mx} (hB : bOk B) (hm : mOk B J2) (kk : LK Γ g b0 i ad ad2) : Go Γ g 4 room_1 46 1431 (LX g ad ad2 B J B J2) 768 [(3, .int (nI i)), (2, .ref (ad2 0)), (1, .ref (ad 0)), (0, .ref b0)] [] := by
  obtain ⟨N, K, b, z, le, rf, hd, ln, vl⟩ := B
  obtain ⟨T, ts, te, tk0, br⟩ := J
  obtain ⟨aw, at1, tk, so, va, lm, ol, ah, lt, lo⟩ := J2
  obtain rfl : aw = 6 := hm.1
  refine Go.aload_n X 2 dL_law_768 rfl ?_
  refine Go.arg X S 1 dL_law_769 dL_law_770 dL_law_771 dL_law_772 dL_law_773 rfl (by omega) hL ?_
  refine Go.callC X (b_hint g ad N K b z le rf hd ln vl T ts te tk0 br (xs (i + 1)) hB.1) lcal_X3_hint gL_law_X3_hint rfl rfl rfl dL_law_774 (fun J9 => ?_)
  refine Go.aload_n X 1 dL_law_777 rfl ?_
  refine Go.arg X S 1 dL_law_778 dL_law_779 dL_law_780 dL_law_781 dL_law_782 rfl (by omega) hL ?_
  refine Go.callM X (e_hint g ad2 N K b z le rf hd ln vl at1 tk so va lm ol ah lt lo (xs (i + 1)) hB.1 hB.2.2.2.2.2 hm) lcal_X4_hint gL_law_X4_hint rfl rfl rfl dL_law_783 (fun J4 hJ => ?_)
  exact Go.icmp_eq X 1852 dL_law_786 rfl (fun _ => kk _ _ _ (k_hint hB (xs (i + 1))) hJ) (fun h => absurd rfl h)
set_option maxHeartbeats 4000000 in
set_option maxRecDepth 100000 in
theorem lwz_14 {Γ : GT} {g : gT} {b0 L : Nat} {xs : Nat → Int32} (X : Cx Γ g 4 cL_law RL wsL_law) (S : Sx Γ b0 L xs) (hL : L ≤ 3072) {i : Nat} (hi : i + 6 ≤ L) {ad ad2 : Nat → Nat} {B : Bx} {J : Jx} {J2 : Mx} (hB : bOk B) (hm : mOk B J2) (kk : LK Γ g b0 i ad ad2) : Go Γ g 4 room_1 46 1431 (LX g ad ad2 B J B J2) 791 [(3, .int (nI i)), (2, .ref (ad2 0)), (1, .ref (ad 0)), (0, .ref b0)] [] := by
  obtain ⟨N, K, b, z, le, rf, hd, ln, vl⟩ := B
  obtain ⟨T, ts, te, tk0, br⟩ := J
  obtain ⟨aw, at1, tk, so, va, lm, ol, ah, lt, lo⟩ := J2
  obtain rfl : aw = 6 := hm.1
  refine Go.aload_n X 2 dL_law_791 rfl ?_
  refine Go.arg X S 1 dL_law_792 dL_law_793 dL_law_794 dL_law_795 dL_law_796 rfl (by omega) hL ?_
  refine Go.callC X (b_feed g ad N K b z le rf hd ln vl T ts te tk0 br (xs (i + 1)) hB.2.2.1) lcal_X3_feed gL_law_X3_feed rfl rfl rfl dL_law_797 (fun J9 => ?_)
  refine Go.aload_n X 1 dL_law_800 rfl ?_
  refine Go.arg X S 1 dL_law_801 dL_law_802 dL_law_803 dL_law_804 dL_law_805 rfl (by omega) hL ?_
  refine Go.callM X (e_feed g ad2 N K b z le rf hd ln vl at1 tk so va lm ol ah lt lo (xs (i + 1)) hB.2.2.1 hm) lcal_X4_feed gL_law_X4_feed rfl rfl rfl dL_law_806 (fun J4 hJ => ?_)
  exact Go.icmp_eq X 1852 dL_law_809 rfl (fun _ => kk _ _ _ (k_feed hB (xs (i + 1))) hJ) (fun h => absurd rfl h)
set_option maxHeartbeats 4000000 in
set_option maxRecDepth 100000 in
theorem lwz_15 {Γ : GT} {g : gT} {b0 L : Nat} {xs : Nat → Int32} (X : Cx Γ g 4 cL_law RL wsL_law) (S : Sx Γ b0 L xs) (hL : L ≤ 3072) {i : Nat} (hi : i + 6 ≤ L) {ad ad2 : Nat → Nat} {B : Bx} {J : Jx} {J2 : Mx} (hB : bOk B) (hm : mOk B J2) (kk : LK Γ g b0 i ad ad2) : Go Γ g 4 room_1 46 1431 (LX g ad ad2 B J B J2) 814 [(3, .int (nI i)), (2, .ref (ad2 0)), (1, .ref (ad 0)), (0, .ref b0)] [] := by
  obtain ⟨N, K, b, z, le, rf, hd, ln, vl⟩ := B
  obtain ⟨T, ts, te, tk0, br⟩ := J
  obtain ⟨aw, at1, tk, so, va, lm, ol, ah, lt, lo⟩ := J2
  obtain rfl : aw = 6 := hm.1
  refine Go.aload_n X 2 dL_law_814 rfl ?_
  refine Go.callC X (b_wipe g ad N K b z le rf hd ln vl T ts te tk0 br) lcal_X3_wipe gL_law_X3_wipe rfl rfl rfl dL_law_815 (fun J9 => ?_)
  refine Go.aload_n X 1 dL_law_818 rfl ?_
  refine Go.callM X (e_wipe g ad2 N K b z le rf hd ln vl at1 tk so va lm ol ah lt lo hm) lcal_X4_wipe gL_law_X4_wipe rfl rfl rfl dL_law_819 (fun J4 hJ => ?_)
  exact Go.icmp_eq X 1852 dL_law_822 rfl (fun _ => kk _ _ _ (k_wipe hB) hJ) (fun h => absurd rfl h)
set_option maxHeartbeats 4000000 in
set_option maxRecDepth 100000 in
theorem lwz_16 {Γ : GT} {g : gT} {b0 L : Nat} {xs : Nat → Int32} (X : Cx Γ g 4 cL_law RL wsL_law) (S : Sx Γ b0 L xs) (hL : L ≤ 3072) {i : Nat} (hi : i + 6 ≤ L) {ad ad2 : Nat → Nat} {B : Bx} {J : Jx} {J2 : Mx} (hB : bOk B) (hm : mOk B J2) (kk : LK Γ g b0 i ad ad2) : Go Γ g 4 room_1 46 1431 (LX g ad ad2 B J B J2) 827 [(3, .int (nI i)), (2, .ref (ad2 0)), (1, .ref (ad 0)), (0, .ref b0)] [] := by
  obtain ⟨N, K, b, z, le, rf, hd, ln, vl⟩ := B
  obtain ⟨T, ts, te, tk0, br⟩ := J
  obtain ⟨aw, at1, tk, so, va, lm, ol, ah, lt, lo⟩ := J2
  obtain rfl : aw = 6 := hm.1
  refine Go.aload_n X 2 dL_law_827 rfl ?_
  refine Go.callC X (b_school g ad N K b z le rf hd ln vl T ts te tk0 br hB.1 hB.2.2.1 hB.2.2.2.1) lcal_X3_school gL_law_X3_school rfl rfl rfl dL_law_828 (fun J9 => ?_)
  refine Go.aload_n X 1 dL_law_831 rfl ?_
  refine Go.callM X (e_school g ad2 N K b z le rf hd ln vl at1 tk so va lm ol ah lt lo hB.1 hB.2.2.2.2.2 hB.2.2.1 hB.2.2.2.1 hm) lcal_X4_school gL_law_X4_school rfl rfl rfl dL_law_832 (fun J4 hJ => ?_)
  exact Go.icmp_eq X 1852 dL_law_835 rfl (fun _ => kk _ _ _ (k_school hB) hJ) (fun h => absurd rfl h)
set_option maxHeartbeats 4000000 in
set_option maxRecDepth 100000 in
theorem lwz_17 {Γ : GT} {g : gT} {b0 L : Nat} {xs : Nat → Int32} (X : Cx Γ g 4 cL_law RL wsL_law) (S : Sx Γ b0 L xs) (hL : L ≤ 3072) {i : Nat} (hi : i + 6 ≤ L) {ad ad2 : Nat → Nat} {B : Bx} {J : Jx} {J2 : Mx} (hB : bOk B) (hm : mOk B J2) (kk : LK Γ g b0 i ad ad2) : Go Γ g 4 room_1 46 1431 (LX g ad ad2 B J B J2) 840 [(3, .int (nI i)), (2, .ref (ad2 0)), (1, .ref (ad 0)), (0, .ref b0)] [] := by
  obtain ⟨N, K, b, z, le, rf, hd, ln, vl⟩ := B
  obtain ⟨T, ts, te, tk0, br⟩ := J
  obtain ⟨aw, at1, tk, so, va, lm, ol, ah, lt, lo⟩ := J2
  obtain rfl : aw = 6 := hm.1
  refine Go.aload_n X 2 dL_law_840 rfl ?_
  refine Go.arg X S 1 dL_law_841 dL_law_842 dL_law_843 dL_law_844 dL_law_845 rfl (by omega) hL ?_
  refine Go.arg X S 2 dL_law_846 dL_law_847 dL_law_848 dL_law_849 dL_law_850 rfl (by omega) hL ?_
  refine Go.callC X (b_personOf g ad N K b z le rf hd ln vl T ts te tk0 br (xs (i + 1)) (xs (i + 2)) hB.1) lcal_X3_personOf gL_law_X3_personOf rfl rfl rfl dL_law_851 (fun J9 => ?_)
  refine Go.aload_n X 1 dL_law_854 rfl ?_
  refine Go.arg X S 1 dL_law_855 dL_law_856 dL_law_857 dL_law_858 dL_law_859 rfl (by omega) hL ?_
  refine Go.arg X S 2 dL_law_860 dL_law_861 dL_law_862 dL_law_863 dL_law_864 rfl (by omega) hL ?_
  refine Go.callM X (e_personOf g ad2 N K b z le rf hd ln vl at1 tk so va lm ol ah lt lo (xs (i + 1)) (xs (i + 2)) hB.1 hB.2.2.2.2.2 hm) lcal_X4_personOf gL_law_X4_personOf rfl rfl rfl dL_law_865 (fun J4 hJ => ?_)
  exact Go.icmp_eq X 1852 dL_law_868 rfl (fun _ => kk _ _ _ (k_personOf hB (xs (i + 1)) (xs (i + 2))) hJ) (fun h => absurd rfl h)
set_option maxHeartbeats 4000000 in
set_option maxRecDepth 100000 in
theorem lwz_18 {Γ : GT} {g : gT} {b0 L : Nat} {xs : Nat → Int32} (X : Cx Γ g 4 cL_law RL wsL_law) (S : Sx Γ b0 L xs) (hL : L ≤ 3072) {i : Nat} (hi : i + 6 ≤ L) {ad ad2 : Nat → Nat} {B : Bx} {J : Jx} {J2 : Mx} (hB : bOk B) (hm : mOk B J2) (kk : LK Γ g b0 i ad ad2) : Go Γ g 4 room_1 46 1431 (LX g ad ad2 B J B J2) 873 [(3, .int (nI i)), (2, .ref (ad2 0)), (1, .ref (ad 0)), (0, .ref b0)] [] := by
  obtain ⟨N, K, b, z, le, rf, hd, ln, vl⟩ := B
  obtain ⟨T, ts, te, tk0, br⟩ := J
  obtain ⟨aw, at1, tk, so, va, lm, ol, ah, lt, lo⟩ := J2
  obtain rfl : aw = 6 := hm.1
  refine Go.aload_n X 2 dL_law_873 rfl ?_
  refine Go.arg X S 1 dL_law_874 dL_law_875 dL_law_876 dL_law_877 dL_law_878 rfl (by omega) hL ?_
  refine Go.arg X S 2 dL_law_879 dL_law_880 dL_law_881 dL_law_882 dL_law_883 rfl (by omega) hL ?_
  refine Go.callC X (b_morningOf g ad N K b z le rf hd ln vl T ts te tk0 br (xs (i + 1)) (xs (i + 2)) hB.1) lcal_X3_morningOf gL_law_X3_morningOf rfl rfl rfl dL_law_884 (fun J9 => ?_)
  refine Go.aload_n X 1 dL_law_887 rfl ?_
  refine Go.arg X S 1 dL_law_888 dL_law_889 dL_law_890 dL_law_891 dL_law_892 rfl (by omega) hL ?_
  refine Go.arg X S 2 dL_law_893 dL_law_894 dL_law_895 dL_law_896 dL_law_897 rfl (by omega) hL ?_
  refine Go.callM X (e_morningOf g ad2 N K b z le rf hd ln vl at1 tk so va lm ol ah lt lo (xs (i + 1)) (xs (i + 2)) hB.1 hB.2.2.2.2.2 hm) lcal_X4_morningOf gL_law_X4_morningOf rfl rfl rfl dL_law_898 (fun J4 hJ => ?_)
  exact Go.icmp_eq X 1852 dL_law_901 rfl (fun _ => kk _ _ _ (k_morningOf hB (xs (i + 1)) (xs (i + 2))) hJ) (fun h => absurd rfl h)
set_option maxHeartbeats 4000000 in
set_option maxRecDepth 100000 in
theorem lwz_19 {Γ : GT} {g : gT} {b0 L : Nat} {xs : Nat → Int32} (X : Cx Γ g 4 cL_law RL wsL_law) (S : Sx Γ b0 L xs) (hL : L ≤ 3072) {i : Nat} (hi : i + 6 ≤ L) {ad ad2 : Nat → Nat} {B : Bx} {J : Jx} {J2 : Mx} (hB : bOk B) (hm : mOk B J2) (kk : LK Γ g b0 i ad ad2) : Go Γ g 4 room_1 46 1431 (LX g ad ad2 B J B J2) 906 [(3, .int (nI i)), (2, .ref (ad2 0)), (1, .ref (ad 0)), (0, .ref b0)] [] := by
  obtain ⟨N, K, b, z, le, rf, hd, ln, vl⟩ := B
  obtain ⟨T, ts, te, tk0, br⟩ := J
  obtain ⟨aw, at1, tk, so, va, lm, ol, ah, lt, lo⟩ := J2
  obtain rfl : aw = 6 := hm.1
  refine Go.aload_n X 2 dL_law_906 rfl ?_
  refine Go.arg X S 1 dL_law_907 dL_law_908 dL_law_909 dL_law_910 dL_law_911 rfl (by omega) hL ?_
  refine Go.arg X S 2 dL_law_912 dL_law_913 dL_law_914 dL_law_915 dL_law_916 rfl (by omega) hL ?_
  refine Go.callC X (b_can g ad N K b z le rf hd ln vl T ts te tk0 br (xs (i + 1)) (xs (i + 2)) hB.1) lcal_X3_can gL_law_X3_can rfl rfl rfl dL_law_917 (fun J9 => ?_)
  refine Go.aload_n X 1 dL_law_920 rfl ?_
  refine Go.arg X S 1 dL_law_921 dL_law_922 dL_law_923 dL_law_924 dL_law_925 rfl (by omega) hL ?_
  refine Go.arg X S 2 dL_law_926 dL_law_927 dL_law_928 dL_law_929 dL_law_930 rfl (by omega) hL ?_
  refine Go.callM X (e_can g ad2 N K b z le rf hd ln vl at1 tk so va lm ol ah lt lo (xs (i + 1)) (xs (i + 2)) hB.1 hB.2.2.2.2.2 hm) lcal_X4_can gL_law_X4_can rfl rfl rfl dL_law_931 (fun J4 hJ => ?_)
  exact Go.icmp_eq X 1852 dL_law_934 rfl (fun _ => kk _ _ _ (k_can hB (xs (i + 1)) (xs (i + 2))) hJ) (fun h => absurd rfl h)
