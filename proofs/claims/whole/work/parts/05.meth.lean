def MI : List (Nat × Nat × Nat × Nat × Nat × Nat × Nat) := MI_0 ++ (MI_1 ++ (MI_2 ++ (MI_3 ++ (MI_4 ++ (MI_5 ++ (MI_6 ++ (MI_7 ++ (MI_8))))))))
theorem zip_all {α β : Type} {f : α × β → Bool} {a a2 : List α} {b b2 : List β} (hl : a.length = b.length) (h1 : (a.zip b).all f = true) (h2 : (a2.zip b2).all f = true) : ((a ++ a2).zip (b ++ b2)).all f = true := by
  rw [List.zip_append hl, List.all_append, h1, h2]
  rfl
theorem MI_ok : (MT.zip MI).all okm = true := zip_all MI_0_len MI_0_ok (zip_all MI_1_len MI_1_ok (zip_all MI_2_len MI_2_ok (zip_all MI_3_len MI_3_ok (zip_all MI_4_len MI_4_ok (zip_all MI_5_len MI_5_ok (zip_all MI_6_len MI_6_ok (zip_all MI_7_len MI_7_ok (MI_8_ok))))))))
theorem mi_at {j : Nat} {M : Mt} {e : Nat × Nat × Nat × Nat × Nat × Nat × Nat} (h1 : MT[j]? = some M) (h2 : MI[j]? = some e) : okm (M, e) = true := by
  have h : (MT.zip MI)[j]? = some (M, e) := by rw [List.getElem?_zip_eq_some]; exact ⟨h1, h2⟩
  exact List.all_eq_true.mp MI_ok _ (List.mem_of_getElem? h)
set_option maxRecDepth 100000 in
theorem jX10_init : MT[0]? = some mX10_init := rfl
set_option maxRecDepth 100000 in
theorem jX8_init : MT[1]? = some mX8_init := rfl
set_option maxRecDepth 100000 in
theorem jX1_init : MT[2]? = some mX1_init := rfl
set_option maxRecDepth 100000 in
theorem jX7_init : MT[3]? = some mX7_init := rfl
set_option maxRecDepth 100000 in
theorem jX6_init : MT[4]? = some mX6_init := rfl
set_option maxRecDepth 100000 in
theorem jX2_init : MT[5]? = some mX2_init := rfl
set_option maxRecDepth 100000 in
theorem jX3_init : MT[6]? = some mX3_init := rfl
set_option maxRecDepth 100000 in
theorem jX0_init : MT[7]? = some mX0_init := rfl
set_option maxRecDepth 100000 in
theorem jX4_init : MT[8]? = some mX4_init := rfl
set_option maxRecDepth 100000 in
theorem jX5_init : MT[9]? = some mX5_init := rfl
set_option maxRecDepth 100000 in
theorem jX9_init : MT[10]? = some mX9_init := rfl
set_option maxRecDepth 100000 in
theorem jX10_feed : MT[11]? = some mX10_feed := rfl
set_option maxRecDepth 100000 in
theorem jX8_hasRoom : MT[12]? = some mX8_hasRoom := rfl
set_option maxRecDepth 100000 in
theorem jX8_append : MT[13]? = some mX8_append := rfl
set_option maxRecDepth 100000 in
theorem jX10_table : MT[14]? = some mX10_table := rfl
set_option maxRecDepth 100000 in
theorem jX10_refuse : MT[15]? = some mX10_refuse := rfl
set_option maxRecDepth 100000 in
theorem jX8_read : MT[16]? = some mX8_read := rfl
set_option maxRecDepth 100000 in
theorem jX9_clear : MT[17]? = some mX9_clear := rfl
set_option maxRecDepth 100000 in
theorem jX8_step : MT[18]? = some mX8_step := rfl
set_option maxRecDepth 100000 in
theorem jX8_isLetter : MT[19]? = some mX8_isLetter := rfl
set_option maxRecDepth 100000 in
theorem jX8_takeWord : MT[20]? = some mX8_takeWord := rfl
set_option maxRecDepth 100000 in
theorem jX8_isDigit : MT[21]? = some mX8_isDigit := rfl
set_option maxRecDepth 100000 in
theorem jX8_takeWhole : MT[22]? = some mX8_takeWhole := rfl
set_option maxRecDepth 100000 in
theorem jX8_readLine : MT[23]? = some mX8_readLine := rfl
set_option maxRecDepth 100000 in
theorem jX8_lineSort : MT[24]? = some mX8_lineSort := rfl
set_option maxRecDepth 100000 in
theorem jX8_isWord : MT[25]? = some mX8_isWord := rfl
set_option maxRecDepth 100000 in
theorem jJ0_length_8abf5 : MT[26]? = some mJ0_length_8abf5 := rfl
set_option maxRecDepth 100000 in
theorem jJ0_coder_7d493 : MT[27]? = some mJ0_coder_7d493 := rfl
set_option maxRecDepth 100000 in
theorem jJ0_charAt_5068e : MT[28]? = some mJ0_charAt_5068e := rfl
set_option maxRecDepth 100000 in
theorem jJ0_isLatin1_aae02 : MT[29]? = some mJ0_isLatin1_aae02 := rfl
set_option maxRecDepth 100000 in
theorem jJ1_charAt_3b067 : MT[30]? = some mJ1_charAt_3b067 := rfl
set_option maxRecDepth 100000 in
theorem jJ0_checkIndex_df160 : MT[31]? = some mJ0_checkIndex_df160 := rfl
set_option maxRecDepth 100000 in
theorem jJ3_checkIndex_8e157 : MT[32]? = some mJ3_checkIndex_8e157 := rfl
set_option maxRecDepth 100000 in
theorem jJ2_charAt_3b067 : MT[33]? = some mJ2_charAt_3b067 := rfl
set_option maxRecDepth 100000 in
theorem jJ2_checkIndex_2214a : MT[34]? = some mJ2_checkIndex_2214a := rfl
set_option maxRecDepth 100000 in
theorem jJ2_length_9d52b : MT[35]? = some mJ2_length_9d52b := rfl
set_option maxRecDepth 100000 in
theorem jJ2_getChar_3b067 : MT[36]? = some mJ2_getChar_3b067 := rfl
set_option maxRecDepth 100000 in
theorem jX8_fail : MT[37]? = some mX8_fail := rfl
set_option maxRecDepth 100000 in
theorem jX8_isFull : MT[38]? = some mX8_isFull := rfl
set_option maxRecDepth 100000 in
theorem jX8_readTable : MT[39]? = some mX8_readTable := rfl
set_option maxRecDepth 100000 in
theorem jX8_findsWhole : MT[40]? = some mX8_findsWhole := rfl
set_option maxRecDepth 100000 in
theorem jX8_isWholeWithin : MT[41]? = some mX8_isWholeWithin := rfl
set_option maxRecDepth 100000 in
theorem jX8_readPerson : MT[42]? = some mX8_readPerson := rfl
set_option maxRecDepth 100000 in
theorem jX8_findsNewName : MT[43]? = some mX8_findsNewName := rfl
set_option maxRecDepth 100000 in
theorem jX8_wordHere : MT[44]? = some mX8_wordHere := rfl
set_option maxRecDepth 100000 in
theorem jX8_isSameWord : MT[45]? = some mX8_isSameWord := rfl
set_option maxRecDepth 100000 in
theorem jX8_kindHere : MT[46]? = some mX8_kindHere := rfl
set_option maxRecDepth 100000 in
theorem jX8_readName : MT[47]? = some mX8_readName := rfl
set_option maxRecDepth 100000 in
theorem jX9_hasFrom : MT[48]? = some mX9_hasFrom := rfl
set_option maxRecDepth 100000 in
theorem jX8_readFast : MT[49]? = some mX8_readFast := rfl
set_option maxRecDepth 100000 in
theorem jX8_toldNameHere : MT[50]? = some mX8_toldNameHere := rfl
set_option maxRecDepth 100000 in
theorem jX9_fastingOn : MT[51]? = some mX9_fastingOn := rfl
set_option maxRecDepth 100000 in
theorem jX8_readUnsure : MT[52]? = some mX8_readUnsure := rfl
set_option maxRecDepth 100000 in
theorem jX9_isUnsure : MT[53]? = some mX9_isUnsure := rfl
set_option maxRecDepth 100000 in
theorem jX8_readHeard : MT[54]? = some mX8_readHeard := rfl
set_option maxRecDepth 100000 in
theorem jX9_isHeardOn : MT[55]? = some mX9_isHeardOn := rfl
set_option maxRecDepth 100000 in
theorem jX7_begin : MT[56]? = some mX7_begin := rfl
set_option maxRecDepth 100000 in
theorem jJ7_fill_53178 : MT[57]? = some mJ7_fill_53178 := rfl
set_option maxRecDepth 100000 in
theorem jX4_forget : MT[58]? = some mX4_forget := rfl
set_option maxRecDepth 100000 in
theorem jX5_forget : MT[59]? = some mX5_forget := rfl
set_option maxRecDepth 100000 in
theorem jX10_answer : MT[60]? = some mX10_answer := rfl
set_option maxRecDepth 100000 in
theorem jX10_fault : MT[61]? = some mX10_fault := rfl
set_option maxRecDepth 100000 in
theorem jX10_where : MT[62]? = some mX10_where := rfl
set_option maxRecDepth 100000 in
theorem jX10_person : MT[63]? = some mX10_person := rfl
set_option maxRecDepth 100000 in
theorem jX10_lacksPerson : MT[64]? = some mX10_lacksPerson := rfl
set_option maxRecDepth 100000 in
theorem jX10_name : MT[65]? = some mX10_name := rfl
set_option maxRecDepth 100000 in
theorem jX10_lacksName : MT[66]? = some mX10_lacksName := rfl
set_option maxRecDepth 100000 in
theorem jX10_left : MT[67]? = some mX10_left := rfl
set_option maxRecDepth 100000 in
theorem jX10_lacksTable : MT[68]? = some mX10_lacksTable := rfl
set_option maxRecDepth 100000 in
theorem jX10_seen : MT[69]? = some mX10_seen := rfl
set_option maxRecDepth 100000 in
theorem jX7_isDead : MT[70]? = some mX7_isDead := rfl
set_option maxRecDepth 100000 in
theorem jX7_seenHunger : MT[71]? = some mX7_seenHunger := rfl
set_option maxRecDepth 100000 in
theorem jX10_calls : MT[72]? = some mX10_calls := rfl
set_option maxRecDepth 100000 in
theorem jX9_nameSeen : MT[73]? = some mX9_nameSeen := rfl
set_option maxRecDepth 100000 in
theorem jX10_namer : MT[74]? = some mX10_namer := rfl
set_option maxRecDepth 100000 in
theorem jX7_whoNames : MT[75]? = some mX7_whoNames := rfl
set_option maxRecDepth 100000 in
theorem jX10_dish : MT[76]? = some mX10_dish := rfl
set_option maxRecDepth 100000 in
theorem jX7_nextDish : MT[77]? = some mX7_nextDish := rfl
set_option maxRecDepth 100000 in
theorem jX10_share : MT[78]? = some mX10_share := rfl
set_option maxRecDepth 100000 in
theorem jX1_walk : MT[79]? = some mX1_walk := rfl
set_option maxRecDepth 100000 in
theorem jX1_start : MT[80]? = some mX1_start := rfl
set_option maxRecDepth 100000 in
theorem jX7_copy : MT[81]? = some mX7_copy := rfl
set_option maxRecDepth 100000 in
theorem jX1_pass : MT[82]? = some mX1_pass := rfl
set_option maxRecDepth 100000 in
theorem jX6_hold : MT[83]? = some mX6_hold := rfl
set_option maxRecDepth 100000 in
theorem jX7_fastingNext : MT[84]? = some mX7_fastingNext := rfl
set_option maxRecDepth 100000 in
theorem jX7_grow : MT[85]? = some mX7_grow := rfl
set_option maxRecDepth 100000 in
theorem jX7_living : MT[86]? = some mX7_living := rfl
set_option maxRecDepth 100000 in
theorem jX6_seat : MT[87]? = some mX6_seat := rfl
set_option maxRecDepth 100000 in
theorem jX6_serve : MT[88]? = some mX6_serve := rfl
set_option maxRecDepth 100000 in
theorem jX7_worthOf : MT[89]? = some mX7_worthOf := rfl
set_option maxRecDepth 100000 in
theorem jX7_close : MT[90]? = some mX7_close := rfl
set_option maxRecDepth 100000 in
theorem jX10_nameWith : MT[91]? = some mX10_nameWith := rfl
set_option maxRecDepth 100000 in
theorem jX10_isRefused : MT[92]? = some mX10_isRefused := rfl
set_option maxRecDepth 100000 in
theorem jX10_isOutside : MT[93]? = some mX10_isOutside := rfl
set_option maxRecDepth 100000 in
theorem jX10_dishWithGuest : MT[94]? = some mX10_dishWithGuest := rfl
set_option maxRecDepth 100000 in
theorem jX10_greatestSeen : MT[95]? = some mX10_greatestSeen := rfl
set_option maxRecDepth 100000 in
theorem jX10_guestFor : MT[96]? = some mX10_guestFor := rfl
set_option maxRecDepth 100000 in
theorem jX10_namerIn : MT[97]? = some mX10_namerIn := rfl
set_option maxRecDepth 100000 in
theorem jX10_dishIn : MT[98]? = some mX10_dishIn := rfl
set_option maxRecDepth 100000 in
theorem jX10_hungerIn : MT[99]? = some mX10_hungerIn := rfl
set_option maxRecDepth 100000 in
theorem jX10_leftIn : MT[100]? = some mX10_leftIn := rfl
set_option maxRecDepth 100000 in
theorem jX10_livingIn : MT[101]? = some mX10_livingIn := rfl
set_option maxRecDepth 100000 in
theorem jX10_hungriestIn : MT[102]? = some mX10_hungriestIn := rfl
set_option maxRecDepth 100000 in
theorem jX7_hungriest : MT[103]? = some mX7_hungriest := rfl
set_option maxRecDepth 100000 in
theorem jX10_unevenIn : MT[104]? = some mX10_unevenIn := rfl
set_option maxRecDepth 100000 in
theorem jX7_unevenness : MT[105]? = some mX7_unevenness := rfl
set_option maxRecDepth 100000 in
theorem jX10_deadIn : MT[106]? = some mX10_deadIn := rfl
set_option maxRecDepth 100000 in
theorem jX10_eats : MT[107]? = some mX10_eats := rfl
set_option maxRecDepth 100000 in
theorem jX10_says : MT[108]? = some mX10_says := rfl
set_option maxRecDepth 100000 in
theorem jX10_firstDish : MT[109]? = some mX10_firstDish := rfl
set_option maxRecDepth 100000 in
theorem jX10_named : MT[110]? = some mX10_named := rfl
set_option maxRecDepth 100000 in
theorem jX10_worthIn : MT[111]? = some mX10_worthIn := rfl
set_option maxRecDepth 100000 in
theorem jX10_fastsFor : MT[112]? = some mX10_fastsFor := rfl
set_option maxRecDepth 100000 in
theorem jX2_seekName : MT[113]? = some mX2_seekName := rfl
set_option maxRecDepth 100000 in
theorem jX2_seekOn : MT[114]? = some mX2_seekOn := rfl
set_option maxRecDepth 100000 in
theorem jX7_freeToFast : MT[115]? = some mX7_freeToFast := rfl
set_option maxRecDepth 100000 in
theorem jX7_endangered : MT[116]? = some mX7_endangered := rfl
set_option maxRecDepth 100000 in
theorem jX2_keepsAll : MT[117]? = some mX2_keepsAll := rfl
set_option maxRecDepth 100000 in
theorem jX2_isBetter : MT[118]? = some mX2_isBetter := rfl
set_option maxRecDepth 100000 in
theorem jJ6_bitCount_0f7a4 : MT[119]? = some mJ6_bitCount_0f7a4 := rfl
set_option maxRecDepth 100000 in
theorem jX2_isFound : MT[120]? = some mX2_isFound := rfl
set_option maxRecDepth 100000 in
theorem jX10_fastsAt : MT[121]? = some mX10_fastsAt := rfl
set_option maxRecDepth 100000 in
theorem jX10_bestFast : MT[122]? = some mX10_bestFast := rfl
set_option maxRecDepth 100000 in
theorem jX2_seekWorth : MT[123]? = some mX2_seekWorth := rfl
set_option maxRecDepth 100000 in
theorem jX2_weighFast : MT[124]? = some mX2_weighFast := rfl
set_option maxRecDepth 100000 in
theorem jX10_bestWorth : MT[125]? = some mX10_bestWorth := rfl
set_option maxRecDepth 100000 in
theorem jX10_tables : MT[126]? = some mX10_tables := rfl
set_option maxRecDepth 100000 in
theorem jX10_bestFirstTable : MT[127]? = some mX10_bestFirstTable := rfl
set_option maxRecDepth 100000 in
theorem jX10_worthOfTables : MT[128]? = some mX10_worthOfTables := rfl
set_option maxRecDepth 100000 in
theorem jX10_worthNamedBy : MT[129]? = some mX10_worthNamedBy := rfl
set_option maxRecDepth 100000 in
theorem jX7_mostSeen : MT[130]? = some mX7_mostSeen := rfl
set_option maxRecDepth 100000 in
theorem jX10_tablesWorth : MT[131]? = some mX10_tablesWorth := rfl
set_option maxRecDepth 100000 in
theorem jX10_bowlFor : MT[132]? = some mX10_bowlFor := rfl
set_option maxRecDepth 100000 in
theorem jX10_bowlKeepsAll : MT[133]? = some mX10_bowlKeepsAll := rfl
set_option maxRecDepth 100000 in
theorem jX10_fits : MT[134]? = some mX10_fits := rfl
set_option maxRecDepth 100000 in
theorem jX3_weigh : MT[135]? = some mX3_weigh := rfl
set_option maxRecDepth 100000 in
theorem jX3_firstUnlike : MT[136]? = some mX3_firstUnlike := rfl
set_option maxRecDepth 100000 in
theorem jX9_lastHeardDay : MT[137]? = some mX9_lastHeardDay := rfl
set_option maxRecDepth 100000 in
theorem jX10_fitAt : MT[138]? = some mX10_fitAt := rfl
set_option maxRecDepth 100000 in
theorem jX3_setAt : MT[139]? = some mX3_setAt := rfl
set_option maxRecDepth 100000 in
theorem jX3_isFitting : MT[140]? = some mX3_isFitting := rfl
set_option maxRecDepth 100000 in
theorem jX10_could : MT[141]? = some mX10_could := rfl
set_option maxRecDepth 100000 in
theorem jX10_surely : MT[142]? = some mX10_surely := rfl
set_option maxRecDepth 100000 in
theorem jX10_ask : MT[143]? = some mX10_ask := rfl
set_option maxRecDepth 100000 in
theorem jX3_whomToAsk : MT[144]? = some mX3_whomToAsk := rfl
set_option maxRecDepth 100000 in
theorem jX3_leftAtMost : MT[145]? = some mX3_leftAtMost := rfl
set_option maxRecDepth 100000 in
theorem jX10_askLeaves : MT[146]? = some mX10_askLeaves := rfl
set_option maxRecDepth 100000 in
theorem jX10_judge : MT[147]? = some mX10_judge := rfl
set_option maxRecDepth 100000 in
theorem jX10_takes : MT[148]? = some mX10_takes := rfl
set_option maxRecDepth 100000 in
theorem jX10_gain : MT[149]? = some mX10_gain := rfl
set_option maxRecDepth 100000 in
theorem jX10_rests : MT[150]? = some mX10_rests := rfl
set_option maxRecDepth 100000 in
theorem jX10_isRest : MT[151]? = some mX10_isRest := rfl
set_option maxRecDepth 100000 in
theorem jX10_rest : MT[152]? = some mX10_rest := rfl
set_option maxRecDepth 100000 in
theorem jX10_odds : MT[153]? = some mX10_odds := rfl
set_option maxRecDepth 100000 in
theorem jX0_weigh : MT[154]? = some mX0_weigh := rfl
set_option maxRecDepth 100000 in
theorem jJ7_fill_d0a16 : MT[155]? = some mJ7_fill_d0a16 := rfl
set_option maxRecDepth 100000 in
theorem jX0_weighWay : MT[156]? = some mX0_weighWay := rfl
set_option maxRecDepth 100000 in
theorem jX0_lowest : MT[157]? = some mX0_lowest := rfl
set_option maxRecDepth 100000 in
theorem jX10_mean : MT[158]? = some mX10_mean := rfl
set_option maxRecDepth 100000 in
theorem jX0_weightOfWorths : MT[159]? = some mX0_weightOfWorths := rfl
set_option maxRecDepth 100000 in
theorem jX10_drawn : MT[160]? = some mX10_drawn := rfl
set_option maxRecDepth 100000 in
theorem jX0_dishByDraws : MT[161]? = some mX0_dishByDraws := rfl
set_option maxRecDepth 100000 in
theorem jX10_day : MT[162]? = some mX10_day := rfl
set_option maxRecDepth 100000 in
theorem jX4_keep : MT[163]? = some mX4_keep := rfl
set_option maxRecDepth 100000 in
theorem jX10_bid : MT[164]? = some mX10_bid := rfl
set_option maxRecDepth 100000 in
theorem jX10_give : MT[165]? = some mX10_give := rfl
set_option maxRecDepth 100000 in
theorem jX10_pour : MT[166]? = some mX10_pour := rfl
set_option maxRecDepth 100000 in
theorem jX10_value : MT[167]? = some mX10_value := rfl
set_option maxRecDepth 100000 in
theorem jX10_undo : MT[168]? = some mX10_undo := rfl
set_option maxRecDepth 100000 in
theorem jX4_takeBack : MT[169]? = some mX4_takeBack := rfl
set_option maxRecDepth 100000 in
theorem jX10_image : MT[170]? = some mX10_image := rfl
set_option maxRecDepth 100000 in
theorem jX5_keep : MT[171]? = some mX5_keep := rfl
set_option maxRecDepth 100000 in
theorem jX10_back : MT[172]? = some mX10_back := rfl
set_option maxRecDepth 100000 in
theorem jX5_show : MT[173]? = some mX5_show := rfl
set_option maxRecDepth 100000 in
theorem jX10_size : MT[174]? = some mX10_size := rfl
set_option maxRecDepth 100000 in
theorem jX10_trouble : MT[175]? = some mX10_trouble := rfl
set_option maxRecDepth 100000 in
theorem jX10_led : MT[176]? = some mX10_led := rfl
set_option maxRecDepth 100000 in
theorem jX11_init : MT[177]? = some mX11_init := rfl
set_option maxRecDepth 100000 in
theorem jX11_thrown : MT[178]? = some mX11_thrown := rfl
set_option maxRecDepth 100000 in
theorem jX11_feed : MT[179]? = some mX11_feed := rfl
set_option maxRecDepth 100000 in
theorem jX11_table : MT[180]? = some mX11_table := rfl
set_option maxRecDepth 100000 in
theorem jX11_anew : MT[181]? = some mX11_anew := rfl
set_option maxRecDepth 100000 in
theorem jX11_in : MT[182]? = some mX11_in := rfl
set_option maxRecDepth 100000 in
theorem jX11_no : MT[183]? = some mX11_no := rfl
set_option maxRecDepth 100000 in
theorem jX11_next : MT[184]? = some mX11_next := rfl
set_option maxRecDepth 100000 in
theorem jX11_see : MT[185]? = some mX11_see := rfl
set_option maxRecDepth 100000 in
theorem jX11_isSmall : MT[186]? = some mX11_isSmall := rfl
set_option maxRecDepth 100000 in
theorem jX11_isDigit : MT[187]? = some mX11_isDigit := rfl
set_option maxRecDepth 100000 in
theorem jX11_readLine : MT[188]? = some mX11_readLine := rfl
set_option maxRecDepth 100000 in
theorem jX11_isWord : MT[189]? = some mX11_isWord := rfl
set_option maxRecDepth 100000 in
theorem jX11_tableLine : MT[190]? = some mX11_tableLine := rfl
set_option maxRecDepth 100000 in
theorem jX11_wrong : MT[191]? = some mX11_wrong := rfl
set_option maxRecDepth 100000 in
theorem jX11_after : MT[192]? = some mX11_after := rfl
set_option maxRecDepth 100000 in
theorem jX11_must : MT[193]? = some mX11_must := rfl
set_option maxRecDepth 100000 in
theorem jX11_takesWord : MT[194]? = some mX11_takesWord := rfl
set_option maxRecDepth 100000 in
theorem jX11_number : MT[195]? = some mX11_number := rfl
set_option maxRecDepth 100000 in
theorem jX11_numberHere : MT[196]? = some mX11_numberHere := rfl
set_option maxRecDepth 100000 in
theorem jX11_pass : MT[197]? = some mX11_pass := rfl
set_option maxRecDepth 100000 in
theorem jX11_begins : MT[198]? = some mX11_begins := rfl
set_option maxRecDepth 100000 in
theorem jX11_personLine : MT[199]? = some mX11_personLine := rfl
set_option maxRecDepth 100000 in
theorem jX11_newName : MT[200]? = some mX11_newName := rfl
set_option maxRecDepth 100000 in
theorem jX11_mustName : MT[201]? = some mX11_mustName := rfl
set_option maxRecDepth 100000 in
theorem jX11_find : MT[202]? = some mX11_find := rfl
set_option maxRecDepth 100000 in
theorem jX11_nameLine : MT[203]? = some mX11_nameLine := rfl
set_option maxRecDepth 100000 in
theorem jX11_fastLine : MT[204]? = some mX11_fastLine := rfl
set_option maxRecDepth 100000 in
theorem jX11_personHere : MT[205]? = some mX11_personHere := rfl
set_option maxRecDepth 100000 in
theorem jX11_namedHere : MT[206]? = some mX11_namedHere := rfl
set_option maxRecDepth 100000 in
theorem jX11_unsureLine : MT[207]? = some mX11_unsureLine := rfl
set_option maxRecDepth 100000 in
theorem jX11_heardLine : MT[208]? = some mX11_heardLine := rfl
set_option maxRecDepth 100000 in
theorem jX11_dishHere : MT[209]? = some mX11_dishHere := rfl
set_option maxRecDepth 100000 in
theorem jX11_copy : MT[210]? = some mX11_copy := rfl
set_option maxRecDepth 100000 in
theorem jX11_fault : MT[211]? = some mX11_fault := rfl
set_option maxRecDepth 100000 in
theorem jX11_where : MT[212]? = some mX11_where := rfl
set_option maxRecDepth 100000 in
theorem jX11_person : MT[213]? = some mX11_person := rfl
set_option maxRecDepth 100000 in
theorem jX11_isPerson : MT[214]? = some mX11_isPerson := rfl
set_option maxRecDepth 100000 in
theorem jX11_name : MT[215]? = some mX11_name := rfl
set_option maxRecDepth 100000 in
theorem jX11_isName : MT[216]? = some mX11_isName := rfl
set_option maxRecDepth 100000 in
theorem jX11_left : MT[217]? = some mX11_left := rfl
set_option maxRecDepth 100000 in
theorem jX11_seen : MT[218]? = some mX11_seen := rfl
set_option maxRecDepth 100000 in
theorem jX11_dawn : MT[219]? = some mX11_dawn := rfl
set_option maxRecDepth 100000 in
theorem jX11_begin : MT[220]? = some mX11_begin := rfl
set_option maxRecDepth 100000 in
theorem jX11_lives : MT[221]? = some mX11_lives := rfl
set_option maxRecDepth 100000 in
theorem jX11_hasBit : MT[222]? = some mX11_hasBit := rfl
set_option maxRecDepth 100000 in
theorem jX11_seenOf : MT[223]? = some mX11_seenOf := rfl
set_option maxRecDepth 100000 in
theorem jX11_calls : MT[224]? = some mX11_calls := rfl
set_option maxRecDepth 100000 in
theorem jX11_nameAt : MT[225]? = some mX11_nameAt := rfl
set_option maxRecDepth 100000 in
theorem jX11_namer : MT[226]? = some mX11_namer := rfl
set_option maxRecDepth 100000 in
theorem jX11_daysOn : MT[227]? = some mX11_daysOn := rfl
set_option maxRecDepth 100000 in
theorem jX11_dayOn : MT[228]? = some mX11_dayOn := rfl
set_option maxRecDepth 100000 in
theorem jX11_fastersOf : MT[229]? = some mX11_fastersOf := rfl
set_option maxRecDepth 100000 in
theorem jX11_namerOf : MT[230]? = some mX11_namerOf := rfl
set_option maxRecDepth 100000 in
theorem jX11_eatOn : MT[231]? = some mX11_eatOn := rfl
set_option maxRecDepth 100000 in
theorem jX11_dish : MT[232]? = some mX11_dish := rfl
set_option maxRecDepth 100000 in
theorem jX11_share : MT[233]? = some mX11_share := rfl
set_option maxRecDepth 100000 in
theorem jX11_nameWith : MT[234]? = some mX11_nameWith := rfl
set_option maxRecDepth 100000 in
theorem jX11_why : MT[235]? = some mX11_why := rfl
set_option maxRecDepth 100000 in
theorem jX11_seenMost : MT[236]? = some mX11_seenMost := rfl
set_option maxRecDepth 100000 in
theorem jX11_guestFor : MT[237]? = some mX11_guestFor := rfl
set_option maxRecDepth 100000 in
theorem jX11_namerIn : MT[238]? = some mX11_namerIn := rfl
set_option maxRecDepth 100000 in
theorem jX11_aheadWhy : MT[239]? = some mX11_aheadWhy := rfl
set_option maxRecDepth 100000 in
theorem jX11_dishIn : MT[240]? = some mX11_dishIn := rfl
set_option maxRecDepth 100000 in
theorem jX11_hungerIn : MT[241]? = some mX11_hungerIn := rfl
set_option maxRecDepth 100000 in
theorem jX11_leftIn : MT[242]? = some mX11_leftIn := rfl
set_option maxRecDepth 100000 in
theorem jX11_livingIn : MT[243]? = some mX11_livingIn := rfl
set_option maxRecDepth 100000 in
theorem jX11_everybody : MT[244]? = some mX11_everybody := rfl
set_option maxRecDepth 100000 in
theorem jX11_hungriestIn : MT[245]? = some mX11_hungriestIn := rfl
set_option maxRecDepth 100000 in
theorem jX11_hungriestOf : MT[246]? = some mX11_hungriestOf := rfl
set_option maxRecDepth 100000 in
theorem jX11_unevenIn : MT[247]? = some mX11_unevenIn := rfl
set_option maxRecDepth 100000 in
theorem jX11_deadIn : MT[248]? = some mX11_deadIn := rfl
set_option maxRecDepth 100000 in
theorem jX11_eats : MT[249]? = some mX11_eats := rfl
set_option maxRecDepth 100000 in
theorem jX11_within : MT[250]? = some mX11_within := rfl
set_option maxRecDepth 100000 in
theorem jX11_says : MT[251]? = some mX11_says := rfl
set_option maxRecDepth 100000 in
theorem jX11_firstDish : MT[252]? = some mX11_firstDish := rfl
set_option maxRecDepth 100000 in
theorem jX11_named : MT[253]? = some mX11_named := rfl
set_option maxRecDepth 100000 in
theorem jX11_worthIn : MT[254]? = some mX11_worthIn := rfl
set_option maxRecDepth 100000 in
theorem jX11_fastsFor : MT[255]? = some mX11_fastsFor := rfl
set_option maxRecDepth 100000 in
theorem jX11_fastWhy : MT[256]? = some mX11_fastWhy := rfl
set_option maxRecDepth 100000 in
theorem jX11_fastsOf : MT[257]? = some mX11_fastsOf := rfl
set_option maxRecDepth 100000 in
theorem jX11_ones : MT[258]? = some mX11_ones := rfl
set_option maxRecDepth 100000 in
theorem jX11_mayFast : MT[259]? = some mX11_mayFast := rfl
set_option maxRecDepth 100000 in
theorem jX11_fastsAt : MT[260]? = some mX11_fastsAt := rfl
set_option maxRecDepth 100000 in
theorem jX11_bestFast : MT[261]? = some mX11_bestFast := rfl
set_option maxRecDepth 100000 in
theorem jX11_bestFastOf : MT[262]? = some mX11_bestFastOf := rfl
set_option maxRecDepth 100000 in
theorem jX11_bestWorth : MT[263]? = some mX11_bestWorth := rfl
set_option maxRecDepth 100000 in
theorem jX11_tables : MT[264]? = some mX11_tables := rfl
set_option maxRecDepth 100000 in
theorem jX11_tablesOf : MT[265]? = some mX11_tablesOf := rfl
set_option maxRecDepth 100000 in
theorem jX11_worthOf : MT[266]? = some mX11_worthOf := rfl
set_option maxRecDepth 100000 in
theorem jX11_tablesWorth : MT[267]? = some mX11_tablesWorth := rfl
set_option maxRecDepth 100000 in
theorem jX11_bowlFor : MT[268]? = some mX11_bowlFor := rfl
set_option maxRecDepth 100000 in
theorem jX11_fits : MT[269]? = some mX11_fits := rfl
set_option maxRecDepth 100000 in
theorem jX11_seekSets : MT[270]? = some mX11_seekSets := rfl
set_option maxRecDepth 100000 in
theorem jX11_wrongBy : MT[271]? = some mX11_wrongBy := rfl
set_option maxRecDepth 100000 in
theorem jX11_fitAt : MT[272]? = some mX11_fitAt := rfl
set_option maxRecDepth 100000 in
theorem jX11_could : MT[273]? = some mX11_could := rfl
set_option maxRecDepth 100000 in
theorem jX11_surely : MT[274]? = some mX11_surely := rfl
set_option maxRecDepth 100000 in
theorem jX11_ask : MT[275]? = some mX11_ask := rfl
set_option maxRecDepth 100000 in
theorem jX11_askOf : MT[276]? = some mX11_askOf := rfl
set_option maxRecDepth 100000 in
theorem jX11_leavesOf : MT[277]? = some mX11_leavesOf := rfl
set_option maxRecDepth 100000 in
theorem jX11_askLeaves : MT[278]? = some mX11_askLeaves := rfl
set_option maxRecDepth 100000 in
theorem jX11_judge : MT[279]? = some mX11_judge := rfl
set_option maxRecDepth 100000 in
theorem jX11_takes : MT[280]? = some mX11_takes := rfl
set_option maxRecDepth 100000 in
theorem jX11_takesOf : MT[281]? = some mX11_takesOf := rfl
set_option maxRecDepth 100000 in
theorem jX11_rests : MT[282]? = some mX11_rests := rfl
set_option maxRecDepth 100000 in
theorem jX11_seekRests : MT[283]? = some mX11_seekRests := rfl
set_option maxRecDepth 100000 in
theorem jX11_rest : MT[284]? = some mX11_rest := rfl
set_option maxRecDepth 100000 in
theorem jX11_odds : MT[285]? = some mX11_odds := rfl
set_option maxRecDepth 100000 in
theorem jX11_tryFlinch : MT[286]? = some mX11_tryFlinch := rfl
set_option maxRecDepth 100000 in
theorem jX11_lowest : MT[287]? = some mX11_lowest := rfl
set_option maxRecDepth 100000 in
theorem jX11_mean : MT[288]? = some mX11_mean := rfl
set_option maxRecDepth 100000 in
theorem jX11_drawn : MT[289]? = some mX11_drawn := rfl
set_option maxRecDepth 100000 in
theorem jX11_day : MT[290]? = some mX11_day := rfl
set_option maxRecDepth 100000 in
theorem jX11_note : MT[291]? = some mX11_note := rfl
set_option maxRecDepth 100000 in
theorem jX11_bid : MT[292]? = some mX11_bid := rfl
set_option maxRecDepth 100000 in
theorem jX11_give : MT[293]? = some mX11_give := rfl
set_option maxRecDepth 100000 in
theorem jX11_pour : MT[294]? = some mX11_pour := rfl
set_option maxRecDepth 100000 in
theorem jX11_value : MT[295]? = some mX11_value := rfl
set_option maxRecDepth 100000 in
theorem jX11_undo : MT[296]? = some mX11_undo := rfl
set_option maxRecDepth 100000 in
theorem jX11_isNot : MT[297]? = some mX11_isNot := rfl
set_option maxRecDepth 100000 in
theorem jX11_image : MT[298]? = some mX11_image := rfl
set_option maxRecDepth 100000 in
theorem jX11_back : MT[299]? = some mX11_back := rfl
set_option maxRecDepth 100000 in
theorem jX11_led : MT[300]? = some mX11_led := rfl
set_option maxRecDepth 100000 in
theorem jX11_size : MT[301]? = some mX11_size := rfl
set_option maxRecDepth 100000 in
theorem jX11_trouble : MT[302]? = some mX11_trouble := rfl
