theorem goodIn_r {big : List Cond} (ws : List Cond) (ps : List Nat) (hp : ws = ps.filterMap (fun i => big[i]?)) (h : ws.all goodWord = true) : GoodIn big ws := by
  intro w hw
  have h1 := List.all_eq_true.mp h w hw
  rw [hp] at hw
  obtain ⟨i, -, hi⟩ := List.mem_filterMap.mp hw
  have hm : w ∈ big := by first | exact List.mem_of_getElem? hi | exact List.getElem?_mem hi
  exact ⟨hm, good_of_word h1⟩
def cN (o : Nat) : String := match o with
  | 0 => RX0
  | 1 => RX1
  | 2 => RX2
  | 3 => RX3
  | 4 => RX4
  | 5 => RX5
  | 6 => RX6
  | 7 => RX7
  | 8 => RX8
  | 9 => RX9
  | 10 => RX10
  | 11 => RX11
  | 12 => RL
  | _ => ""
abbrev Mt : Type := Nat × MethodName × ByteArray × Nat × Option FieldType
def mX10_init : Mt := (10, yX10_init, cX10_init, 1, none)
def mX8_init : Mt := (8, yX8_init, cX8_init, 1, none)
def mX1_init : Mt := (1, yX1_init, cX1_init, 1, none)
def mX7_init : Mt := (7, yX7_init, cX7_init, 1, none)
def mX6_init : Mt := (6, yX6_init, cX6_init, 1, none)
def mX2_init : Mt := (2, yX2_init, cX2_init, 2, none)
def mX3_init : Mt := (3, yX3_init, cX3_init, 1, none)
def mX0_init : Mt := (0, yX0_init, cX0_init, 1, none)
def mX4_init : Mt := (4, yX4_init, cX4_init, 2, none)
def mX5_init : Mt := (5, yX5_init, cX5_init, 2, none)
def mX9_init : Mt := (9, yX9_init, cX9_init, 1, none)
def mX10_feed : Mt := (10, yX10_feed, cX10_feed, 6, (some .int))
def mX8_hasRoom : Mt := (8, yX8_hasRoom, cX8_hasRoom, 2, (some .boolean))
def mX8_append : Mt := (8, yX8_append, cX8_append, 3, none)
def mX10_table : Mt := (10, yX10_table, cX10_table, 4, (some .int))
def mX10_refuse : Mt := (10, yX10_refuse, cX10_refuse, 2, (some .int))
def mX8_read : Mt := (8, yX8_read, cX8_read, 5, (some .boolean))
def mX9_clear : Mt := (9, yX9_clear, cX9_clear, 1, none)
def mX8_step : Mt := (8, yX8_step, cX8_step, 1, none)
def mX8_isLetter : Mt := (8, yX8_isLetter, cX8_isLetter, 1, (some .boolean))
def mX8_takeWord : Mt := (8, yX8_takeWord, cX8_takeWord, 1, none)
def mX8_isDigit : Mt := (8, yX8_isDigit, cX8_isDigit, 1, (some .boolean))
def mX8_takeWhole : Mt := (8, yX8_takeWhole, cX8_takeWhole, 2, none)
def mX8_readLine : Mt := (8, yX8_readLine, cX8_readLine, 3, (some .boolean))
def mX8_lineSort : Mt := (8, yX8_lineSort, cX8_lineSort, 1, (some .int))
def mX8_isWord : Mt := (8, yX8_isWord, cX8_isWord, 3, (some .boolean))
def mJ0_length_8abf5 : Mt := (20, yJ0_length_8abf5, cJ0_length_8abf5, 1, (some .int))
def mJ0_coder_7d493 : Mt := (20, yJ0_coder_7d493, cJ0_coder_7d493, 1, (some .byte))
def mJ0_charAt_5068e : Mt := (20, yJ0_charAt_5068e, cJ0_charAt_5068e, 2, (some .char))
def mJ0_isLatin1_aae02 : Mt := (20, yJ0_isLatin1_aae02, cJ0_isLatin1_aae02, 1, (some .boolean))
def mJ1_charAt_3b067 : Mt := (20, yJ1_charAt_3b067, cJ1_charAt_3b067, 2, (some .char))
def mJ0_checkIndex_df160 : Mt := (20, yJ0_checkIndex_df160, cJ0_checkIndex_df160, 2, none)
def mJ3_checkIndex_8e157 : Mt := (20, yJ3_checkIndex_8e157, cJ3_checkIndex_8e157, 3, (some .int))
def mJ2_charAt_3b067 : Mt := (20, yJ2_charAt_3b067, cJ2_charAt_3b067, 2, (some .char))
def mJ2_checkIndex_2214a : Mt := (20, yJ2_checkIndex_2214a, cJ2_checkIndex_2214a, 2, none)
def mJ2_length_9d52b : Mt := (20, yJ2_length_9d52b, cJ2_length_9d52b, 1, (some .int))
def mJ2_getChar_3b067 : Mt := (20, yJ2_getChar_3b067, cJ2_getChar_3b067, 2, (some .char))
def mX8_fail : Mt := (8, yX8_fail, cX8_fail, 2, (some .boolean))
def mX8_isFull : Mt := (8, yX8_isFull, cX8_isFull, 2, (some .boolean))
def mX8_readTable : Mt := (8, yX8_readTable, cX8_readTable, 2, (some .boolean))
def mX8_findsWhole : Mt := (8, yX8_findsWhole, cX8_findsWhole, 4, (some .boolean))
def mX8_isWholeWithin : Mt := (8, yX8_isWholeWithin, cX8_isWholeWithin, 3, (some .boolean))
def mX8_readPerson : Mt := (8, yX8_readPerson, cX8_readPerson, 4, (some .boolean))
def mX8_findsNewName : Mt := (8, yX8_findsNewName, cX8_findsNewName, 3, (some .boolean))
def mX8_wordHere : Mt := (8, yX8_wordHere, cX8_wordHere, 2, (some .int))
def mX8_isSameWord : Mt := (8, yX8_isSameWord, cX8_isSameWord, 4, (some .boolean))
def mX8_kindHere : Mt := (8, yX8_kindHere, cX8_kindHere, 1, (some .int))
def mX8_readName : Mt := (8, yX8_readName, cX8_readName, 3, (some .boolean))
def mX9_hasFrom : Mt := (9, yX9_hasFrom, cX9_hasFrom, 3, (some .boolean))
def mX8_readFast : Mt := (8, yX8_readFast, cX8_readFast, 4, (some .boolean))
def mX8_toldNameHere : Mt := (8, yX8_toldNameHere, cX8_toldNameHere, 3, (some .int))
def mX9_fastingOn : Mt := (9, yX9_fastingOn, cX9_fastingOn, 4, (some .int))
def mX8_readUnsure : Mt := (8, yX8_readUnsure, cX8_readUnsure, 4, (some .boolean))
def mX9_isUnsure : Mt := (9, yX9_isUnsure, cX9_isUnsure, 3, (some .boolean))
def mX8_readHeard : Mt := (8, yX8_readHeard, cX8_readHeard, 4, (some .boolean))
def mX9_isHeardOn : Mt := (9, yX9_isHeardOn, cX9_isHeardOn, 3, (some .boolean))
def mX7_begin : Mt := (7, yX7_begin, cX7_begin, 4, none)
def mJ7_fill_53178 : Mt := (20, yJ7_fill_53178, cJ7_fill_53178, 4, none)
def mX4_forget : Mt := (4, yX4_forget, cX4_forget, 1, none)
def mX5_forget : Mt := (5, yX5_forget, cX5_forget, 1, none)
def mX10_answer : Mt := (10, yX10_answer, cX10_answer, 2, (some .int))
def mX10_fault : Mt := (10, yX10_fault, cX10_fault, 1, (some .int))
def mX10_where : Mt := (10, yX10_where, cX10_where, 1, (some .int))
def mX10_person : Mt := (10, yX10_person, cX10_person, 3, (some .int))
def mX10_lacksPerson : Mt := (10, yX10_lacksPerson, cX10_lacksPerson, 2, (some .boolean))
def mX10_name : Mt := (10, yX10_name, cX10_name, 3, (some .int))
def mX10_lacksName : Mt := (10, yX10_lacksName, cX10_lacksName, 2, (some .boolean))
def mX10_left : Mt := (10, yX10_left, cX10_left, 1, (some .int))
def mX10_lacksTable : Mt := (10, yX10_lacksTable, cX10_lacksTable, 1, (some .boolean))
def mX10_seen : Mt := (10, yX10_seen, cX10_seen, 2, (some .int))
def mX7_isDead : Mt := (7, yX7_isDead, cX7_isDead, 2, (some .boolean))
def mX7_seenHunger : Mt := (7, yX7_seenHunger, cX7_seenHunger, 4, (some .int))
def mX10_calls : Mt := (10, yX10_calls, cX10_calls, 2, (some .int))
def mX9_nameSeen : Mt := (9, yX9_nameSeen, cX9_nameSeen, 4, (some .int))
def mX10_namer : Mt := (10, yX10_namer, cX10_namer, 1, (some .int))
def mX7_whoNames : Mt := (7, yX7_whoNames, cX7_whoNames, 7, (some .int))
def mX10_dish : Mt := (10, yX10_dish, cX10_dish, 1, (some .int))
def mX7_nextDish : Mt := (7, yX7_nextDish, cX7_nextDish, 4, (some .int))
def mX10_share : Mt := (10, yX10_share, cX10_share, 2, (some .int))
def mX1_walk : Mt := (1, yX1_walk, cX1_walk, 5, none)
def mX1_start : Mt := (1, yX1_start, cX1_start, 2, none)
def mX7_copy : Mt := (7, yX7_copy, cX7_copy, 2, none)
def mX1_pass : Mt := (1, yX1_pass, cX1_pass, 4, none)
def mX6_hold : Mt := (6, yX6_hold, cX6_hold, 8, none)
def mX7_fastingNext : Mt := (7, yX7_fastingNext, cX7_fastingNext, 2, (some .int))
def mX7_grow : Mt := (7, yX7_grow, cX7_grow, 3, none)
def mX7_living : Mt := (7, yX7_living, cX7_living, 2, (some .int))
def mX6_seat : Mt := (6, yX6_seat, cX6_seat, 7, (some .int))
def mX6_serve : Mt := (6, yX6_serve, cX6_serve, 8, none)
def mX7_worthOf : Mt := (7, yX7_worthOf, cX7_worthOf, 2, (some .int))
def mX7_close : Mt := (7, yX7_close, cX7_close, 4, none)
def mX10_nameWith : Mt := (10, yX10_nameWith, cX10_nameWith, 2, (some .int))
def mX10_isRefused : Mt := (10, yX10_isRefused, cX10_isRefused, 5, (some .boolean))
def mX10_isOutside : Mt := (10, yX10_isOutside, cX10_isOutside, 3, (some .boolean))
def mX10_dishWithGuest : Mt := (10, yX10_dishWithGuest, cX10_dishWithGuest, 3, (some .int))
def mX10_greatestSeen : Mt := (10, yX10_greatestSeen, cX10_greatestSeen, 2, (some .int))
def mX10_guestFor : Mt := (10, yX10_guestFor, cX10_guestFor, 2, (some .int))
def mX10_namerIn : Mt := (10, yX10_namerIn, cX10_namerIn, 2, (some .int))
def mX10_dishIn : Mt := (10, yX10_dishIn, cX10_dishIn, 2, (some .int))
def mX10_hungerIn : Mt := (10, yX10_hungerIn, cX10_hungerIn, 3, (some .int))
def mX10_leftIn : Mt := (10, yX10_leftIn, cX10_leftIn, 2, (some .int))
def mX10_livingIn : Mt := (10, yX10_livingIn, cX10_livingIn, 2, (some .int))
def mX10_hungriestIn : Mt := (10, yX10_hungriestIn, cX10_hungriestIn, 2, (some .int))
def mX7_hungriest : Mt := (7, yX7_hungriest, cX7_hungriest, 4, (some .int))
def mX10_unevenIn : Mt := (10, yX10_unevenIn, cX10_unevenIn, 2, (some .int))
def mX7_unevenness : Mt := (7, yX7_unevenness, cX7_unevenness, 5, (some .int))
def mX10_deadIn : Mt := (10, yX10_deadIn, cX10_deadIn, 3, (some .int))
def mX10_eats : Mt := (10, yX10_eats, cX10_eats, 3, (some .int))
def mX10_says : Mt := (10, yX10_says, cX10_says, 3, (some .int))
def mX10_firstDish : Mt := (10, yX10_firstDish, cX10_firstDish, 3, (some .int))
def mX10_named : Mt := (10, yX10_named, cX10_named, 2, (some .int))
def mX10_worthIn : Mt := (10, yX10_worthIn, cX10_worthIn, 2, (some .int))
def mX10_fastsFor : Mt := (10, yX10_fastsFor, cX10_fastsFor, 3, (some .int))
def mX2_seekName : Mt := (2, yX2_seekName, cX2_seekName, 5, none)
def mX2_seekOn : Mt := (2, yX2_seekOn, cX2_seekOn, 8, none)
def mX7_freeToFast : Mt := (7, yX7_freeToFast, cX7_freeToFast, 2, (some .int))
def mX7_endangered : Mt := (7, yX7_endangered, cX7_endangered, 4, (some .int))
def mX2_keepsAll : Mt := (2, yX2_keepsAll, cX2_keepsAll, 4, (some .boolean))
def mX2_isBetter : Mt := (2, yX2_isBetter, cX2_isBetter, 3, (some .boolean))
def mJ6_bitCount_0f7a4 : Mt := (20, yJ6_bitCount_0f7a4, cJ6_bitCount_0f7a4, 1, (some .int))
def mX2_isFound : Mt := (2, yX2_isFound, cX2_isFound, 1, (some .boolean))
def mX10_fastsAt : Mt := (10, yX10_fastsAt, cX10_fastsAt, 3, (some .int))
def mX10_bestFast : Mt := (10, yX10_bestFast, cX10_bestFast, 1, (some .int))
def mX2_seekWorth : Mt := (2, yX2_seekWorth, cX2_seekWorth, 6, none)
def mX2_weighFast : Mt := (2, yX2_weighFast, cX2_weighFast, 3, none)
def mX10_bestWorth : Mt := (10, yX10_bestWorth, cX10_bestWorth, 1, (some .int))
def mX10_tables : Mt := (10, yX10_tables, cX10_tables, 1, (some .int))
def mX10_bestFirstTable : Mt := (10, yX10_bestFirstTable, cX10_bestFirstTable, 7, (some .int))
def mX10_worthOfTables : Mt := (10, yX10_worthOfTables, cX10_worthOfTables, 3, (some .int))
def mX10_worthNamedBy : Mt := (10, yX10_worthNamedBy, cX10_worthNamedBy, 3, (some .int))
def mX7_mostSeen : Mt := (7, yX7_mostSeen, cX7_mostSeen, 6, (some .int))
def mX10_tablesWorth : Mt := (10, yX10_tablesWorth, cX10_tablesWorth, 1, (some .int))
def mX10_bowlFor : Mt := (10, yX10_bowlFor, cX10_bowlFor, 3, (some .int))
def mX10_bowlKeepsAll : Mt := (10, yX10_bowlKeepsAll, cX10_bowlKeepsAll, 4, (some .boolean))
def mX10_fits : Mt := (10, yX10_fits, cX10_fits, 1, (some .int))
def mX3_weigh : Mt := (3, yX3_weigh, cX3_weigh, 3, none)
def mX3_firstUnlike : Mt := (3, yX3_firstUnlike, cX3_firstUnlike, 5, (some .int))
def mX9_lastHeardDay : Mt := (9, yX9_lastHeardDay, cX9_lastHeardDay, 3, (some .int))
def mX10_fitAt : Mt := (10, yX10_fitAt, cX10_fitAt, 3, (some .int))
def mX3_setAt : Mt := (3, yX3_setAt, cX3_setAt, 4, (some .int))
def mX3_isFitting : Mt := (3, yX3_isFitting, cX3_isFitting, 2, (some .boolean))
def mX10_could : Mt := (10, yX10_could, cX10_could, 1, (some .int))
def mX10_surely : Mt := (10, yX10_surely, cX10_surely, 1, (some .int))
def mX10_ask : Mt := (10, yX10_ask, cX10_ask, 1, (some .int))
def mX3_whomToAsk : Mt := (3, yX3_whomToAsk, cX3_whomToAsk, 4, (some .int))
def mX3_leftAtMost : Mt := (3, yX3_leftAtMost, cX3_leftAtMost, 4, (some .int))
def mX10_askLeaves : Mt := (10, yX10_askLeaves, cX10_askLeaves, 2, (some .int))
def mX10_judge : Mt := (10, yX10_judge, cX10_judge, 1, (some .int))
def mX10_takes : Mt := (10, yX10_takes, cX10_takes, 5, (some .int))
def mX10_gain : Mt := (10, yX10_gain, cX10_gain, 3, (some .int))
def mX10_rests : Mt := (10, yX10_rests, cX10_rests, 4, (some .int))
def mX10_isRest : Mt := (10, yX10_isRest, cX10_isRest, 3, (some .boolean))
def mX10_rest : Mt := (10, yX10_rest, cX10_rest, 3, (some .int))
def mX10_odds : Mt := (10, yX10_odds, cX10_odds, 4, (some .long))
def mX0_weigh : Mt := (0, yX0_weigh, cX0_weigh, 5, none)
def mJ7_fill_d0a16 : Mt := (20, yJ7_fill_d0a16, cJ7_fill_d0a16, 5, none)
def mX0_weighWay : Mt := (0, yX0_weighWay, cX0_weighWay, 9, none)
def mX0_lowest : Mt := (0, yX0_lowest, cX0_lowest, 12, (some .long))
def mX10_mean : Mt := (10, yX10_mean, cX10_mean, 3, (some .long))
def mX0_weightOfWorths : Mt := (0, yX0_weightOfWorths, cX0_weightOfWorths, 6, (some .long))
def mX10_drawn : Mt := (10, yX10_drawn, cX10_drawn, 3, (some .int))
def mX0_dishByDraws : Mt := (0, yX0_dishByDraws, cX0_dishByDraws, 7, (some .int))
def mX10_day : Mt := (10, yX10_day, cX10_day, 1, (some .int))
def mX4_keep : Mt := (4, yX4_keep, cX4_keep, 2, none)
def mX10_bid : Mt := (10, yX10_bid, cX10_bid, 2, (some .int))
def mX10_give : Mt := (10, yX10_give, cX10_give, 3, (some .int))
def mX10_pour : Mt := (10, yX10_pour, cX10_pour, 2, (some .int))
def mX10_value : Mt := (10, yX10_value, cX10_value, 4, (some .int))
def mX10_undo : Mt := (10, yX10_undo, cX10_undo, 2, (some .boolean))
def mX4_takeBack : Mt := (4, yX4_takeBack, cX4_takeBack, 2, (some .boolean))
def mX10_image : Mt := (10, yX10_image, cX10_image, 2, (some .int))
def mX5_keep : Mt := (5, yX5_keep, cX5_keep, 2, (some .int))
def mX10_back : Mt := (10, yX10_back, cX10_back, 3, (some .boolean))
def mX5_show : Mt := (5, yX5_show, cX5_show, 3, (some .boolean))
def mX10_size : Mt := (10, yX10_size, cX10_size, 2, (some .int))
def mX10_trouble : Mt := (10, yX10_trouble, cX10_trouble, 1, (some .int))
def mX10_led : Mt := (10, yX10_led, cX10_led, 4, (some .int))
def mX11_init : Mt := (11, yX11_init, cX11_init, 1, none)
def mX11_thrown : Mt := (11, yX11_thrown, cX11_thrown, 1, (some .int))
def mX11_feed : Mt := (11, yX11_feed, cX11_feed, 8, (some .int))
def mX11_table : Mt := (11, yX11_table, cX11_table, 4, (some .int))
def mX11_anew : Mt := (11, yX11_anew, cX11_anew, 1, none)
def mX11_in : Mt := (11, yX11_in, cX11_in, 3, (some .boolean))
def mX11_no : Mt := (11, yX11_no, cX11_no, 2, (some .int))
def mX11_next : Mt := (11, yX11_next, cX11_next, 4, none)
def mX11_see : Mt := (11, yX11_see, cX11_see, 2, (some .int))
def mX11_isSmall : Mt := (11, yX11_isSmall, cX11_isSmall, 1, (some .boolean))
def mX11_isDigit : Mt := (11, yX11_isDigit, cX11_isDigit, 1, (some .boolean))
def mX11_readLine : Mt := (11, yX11_readLine, cX11_readLine, 1, none)
def mX11_isWord : Mt := (11, yX11_isWord, cX11_isWord, 4, (some .boolean))
def mX11_tableLine : Mt := (11, yX11_tableLine, cX11_tableLine, 1, none)
def mX11_wrong : Mt := (11, yX11_wrong, cX11_wrong, 3, none)
def mX11_after : Mt := (11, yX11_after, cX11_after, 4, (some .int))
def mX11_must : Mt := (11, yX11_must, cX11_must, 2, none)
def mX11_takesWord : Mt := (11, yX11_takesWord, cX11_takesWord, 2, (some .boolean))
def mX11_number : Mt := (11, yX11_number, cX11_number, 4, (some .int))
def mX11_numberHere : Mt := (11, yX11_numberHere, cX11_numberHere, 3, (some .int))
def mX11_pass : Mt := (11, yX11_pass, cX11_pass, 1, none)
def mX11_begins : Mt := (11, yX11_begins, cX11_begins, 3, (some .boolean))
def mX11_personLine : Mt := (11, yX11_personLine, cX11_personLine, 5, none)
def mX11_newName : Mt := (11, yX11_newName, cX11_newName, 3, none)
def mX11_mustName : Mt := (11, yX11_mustName, cX11_mustName, 1, none)
def mX11_find : Mt := (11, yX11_find, cX11_find, 4, (some .int))
def mX11_nameLine : Mt := (11, yX11_nameLine, cX11_nameLine, 4, none)
def mX11_fastLine : Mt := (11, yX11_fastLine, cX11_fastLine, 5, none)
def mX11_personHere : Mt := (11, yX11_personHere, cX11_personHere, 1, (some .int))
def mX11_namedHere : Mt := (11, yX11_namedHere, cX11_namedHere, 4, (some .int))
def mX11_unsureLine : Mt := (11, yX11_unsureLine, cX11_unsureLine, 4, none)
def mX11_heardLine : Mt := (11, yX11_heardLine, cX11_heardLine, 5, none)
def mX11_dishHere : Mt := (11, yX11_dishHere, cX11_dishHere, 1, (some .int))
def mX11_copy : Mt := (11, yX11_copy, cX11_copy, 6, none)
def mX11_fault : Mt := (11, yX11_fault, cX11_fault, 1, (some .int))
def mX11_where : Mt := (11, yX11_where, cX11_where, 1, (some .int))
def mX11_person : Mt := (11, yX11_person, cX11_person, 3, (some .int))
def mX11_isPerson : Mt := (11, yX11_isPerson, cX11_isPerson, 2, (some .boolean))
def mX11_name : Mt := (11, yX11_name, cX11_name, 3, (some .int))
def mX11_isName : Mt := (11, yX11_isName, cX11_isName, 2, (some .boolean))
def mX11_left : Mt := (11, yX11_left, cX11_left, 1, (some .int))
def mX11_seen : Mt := (11, yX11_seen, cX11_seen, 2, (some .int))
def mX11_dawn : Mt := (11, yX11_dawn, cX11_dawn, 2, none)
def mX11_begin : Mt := (11, yX11_begin, cX11_begin, 1, none)
def mX11_lives : Mt := (11, yX11_lives, cX11_lives, 3, (some .boolean))
def mX11_hasBit : Mt := (11, yX11_hasBit, cX11_hasBit, 2, (some .boolean))
def mX11_seenOf : Mt := (11, yX11_seenOf, cX11_seenOf, 5, (some .int))
def mX11_calls : Mt := (11, yX11_calls, cX11_calls, 2, (some .int))
def mX11_nameAt : Mt := (11, yX11_nameAt, cX11_nameAt, 4, (some .int))
def mX11_namer : Mt := (11, yX11_namer, cX11_namer, 1, (some .int))
def mX11_daysOn : Mt := (11, yX11_daysOn, cX11_daysOn, 3, none)
def mX11_dayOn : Mt := (11, yX11_dayOn, cX11_dayOn, 8, none)
def mX11_fastersOf : Mt := (11, yX11_fastersOf, cX11_fastersOf, 4, (some .int))
def mX11_namerOf : Mt := (11, yX11_namerOf, cX11_namerOf, 5, (some .int))
def mX11_eatOn : Mt := (11, yX11_eatOn, cX11_eatOn, 10, none)
def mX11_dish : Mt := (11, yX11_dish, cX11_dish, 1, (some .int))
def mX11_share : Mt := (11, yX11_share, cX11_share, 2, (some .int))
def mX11_nameWith : Mt := (11, yX11_nameWith, cX11_nameWith, 4, (some .int))
def mX11_why : Mt := (11, yX11_why, cX11_why, 3, (some .int))
def mX11_seenMost : Mt := (11, yX11_seenMost, cX11_seenMost, 2, (some .int))
def mX11_guestFor : Mt := (11, yX11_guestFor, cX11_guestFor, 4, (some .int))
def mX11_namerIn : Mt := (11, yX11_namerIn, cX11_namerIn, 3, (some .int))
def mX11_aheadWhy : Mt := (11, yX11_aheadWhy, cX11_aheadWhy, 4, (some .int))
def mX11_dishIn : Mt := (11, yX11_dishIn, cX11_dishIn, 3, (some .int))
def mX11_hungerIn : Mt := (11, yX11_hungerIn, cX11_hungerIn, 4, (some .int))
def mX11_leftIn : Mt := (11, yX11_leftIn, cX11_leftIn, 3, (some .int))
def mX11_livingIn : Mt := (11, yX11_livingIn, cX11_livingIn, 3, (some .int))
def mX11_everybody : Mt := (11, yX11_everybody, cX11_everybody, 1, (some .int))
def mX11_hungriestIn : Mt := (11, yX11_hungriestIn, cX11_hungriestIn, 3, (some .int))
def mX11_hungriestOf : Mt := (11, yX11_hungriestOf, cX11_hungriestOf, 5, (some .int))
def mX11_unevenIn : Mt := (11, yX11_unevenIn, cX11_unevenIn, 4, (some .int))
def mX11_deadIn : Mt := (11, yX11_deadIn, cX11_deadIn, 3, (some .int))
def mX11_eats : Mt := (11, yX11_eats, cX11_eats, 4, (some .int))
def mX11_within : Mt := (11, yX11_within, cX11_within, 5, none)
def mX11_says : Mt := (11, yX11_says, cX11_says, 4, (some .int))
def mX11_firstDish : Mt := (11, yX11_firstDish, cX11_firstDish, 2, (some .int))
def mX11_named : Mt := (11, yX11_named, cX11_named, 3, (some .int))
def mX11_worthIn : Mt := (11, yX11_worthIn, cX11_worthIn, 3, (some .int))
def mX11_fastsFor : Mt := (11, yX11_fastsFor, cX11_fastsFor, 5, (some .int))
def mX11_fastWhy : Mt := (11, yX11_fastWhy, cX11_fastWhy, 3, (some .int))
def mX11_fastsOf : Mt := (11, yX11_fastsOf, cX11_fastsOf, 6, (some .int))
def mX11_ones : Mt := (11, yX11_ones, cX11_ones, 3, (some .int))
def mX11_mayFast : Mt := (11, yX11_mayFast, cX11_mayFast, 7, (some .boolean))
def mX11_fastsAt : Mt := (11, yX11_fastsAt, cX11_fastsAt, 4, (some .int))
def mX11_bestFast : Mt := (11, yX11_bestFast, cX11_bestFast, 1, (some .int))
def mX11_bestFastOf : Mt := (11, yX11_bestFastOf, cX11_bestFastOf, 4, (some .int))
def mX11_bestWorth : Mt := (11, yX11_bestWorth, cX11_bestWorth, 1, (some .int))
def mX11_tables : Mt := (11, yX11_tables, cX11_tables, 1, (some .int))
def mX11_tablesOf : Mt := (11, yX11_tablesOf, cX11_tablesOf, 6, (some .int))
def mX11_worthOf : Mt := (11, yX11_worthOf, cX11_worthOf, 5, (some .int))
def mX11_tablesWorth : Mt := (11, yX11_tablesWorth, cX11_tablesWorth, 1, (some .int))
def mX11_bowlFor : Mt := (11, yX11_bowlFor, cX11_bowlFor, 6, (some .int))
def mX11_fits : Mt := (11, yX11_fits, cX11_fits, 1, (some .int))
def mX11_seekSets : Mt := (11, yX11_seekSets, cX11_seekSets, 5, (some .int))
def mX11_wrongBy : Mt := (11, yX11_wrongBy, cX11_wrongBy, 5, (some .int))
def mX11_fitAt : Mt := (11, yX11_fitAt, cX11_fitAt, 3, (some .int))
def mX11_could : Mt := (11, yX11_could, cX11_could, 1, (some .int))
def mX11_surely : Mt := (11, yX11_surely, cX11_surely, 1, (some .int))
def mX11_ask : Mt := (11, yX11_ask, cX11_ask, 1, (some .int))
def mX11_askOf : Mt := (11, yX11_askOf, cX11_askOf, 3, (some .int))
def mX11_leavesOf : Mt := (11, yX11_leavesOf, cX11_leavesOf, 2, (some .int))
def mX11_askLeaves : Mt := (11, yX11_askLeaves, cX11_askLeaves, 2, (some .int))
def mX11_judge : Mt := (11, yX11_judge, cX11_judge, 1, (some .int))
def mX11_takes : Mt := (11, yX11_takes, cX11_takes, 6, (some .int))
def mX11_takesOf : Mt := (11, yX11_takesOf, cX11_takesOf, 3, (some .int))
def mX11_rests : Mt := (11, yX11_rests, cX11_rests, 3, (some .int))
def mX11_seekRests : Mt := (11, yX11_seekRests, cX11_seekRests, 6, (some .int))
def mX11_rest : Mt := (11, yX11_rest, cX11_rest, 3, (some .int))
def mX11_odds : Mt := (11, yX11_odds, cX11_odds, 5, (some .long))
def mX11_tryFlinch : Mt := (11, yX11_tryFlinch, cX11_tryFlinch, 7, none)
def mX11_lowest : Mt := (11, yX11_lowest, cX11_lowest, 11, (some .long))
def mX11_mean : Mt := (11, yX11_mean, cX11_mean, 4, (some .long))
def mX11_drawn : Mt := (11, yX11_drawn, cX11_drawn, 6, (some .int))
def mX11_day : Mt := (11, yX11_day, cX11_day, 1, (some .int))
def mX11_note : Mt := (11, yX11_note, cX11_note, 2, none)
def mX11_bid : Mt := (11, yX11_bid, cX11_bid, 2, (some .int))
def mX11_give : Mt := (11, yX11_give, cX11_give, 4, (some .int))
def mX11_pour : Mt := (11, yX11_pour, cX11_pour, 3, (some .int))
def mX11_value : Mt := (11, yX11_value, cX11_value, 5, (some .int))
def mX11_undo : Mt := (11, yX11_undo, cX11_undo, 1, (some .boolean))
def mX11_isNot : Mt := (11, yX11_isNot, cX11_isNot, 2, (some .boolean))
def mX11_image : Mt := (11, yX11_image, cX11_image, 1, (some .int))
def mX11_back : Mt := (11, yX11_back, cX11_back, 2, (some .boolean))
def mX11_led : Mt := (11, yX11_led, cX11_led, 4, (some .int))
def mX11_size : Mt := (11, yX11_size, cX11_size, 2, (some .int))
def mX11_trouble : Mt := (11, yX11_trouble, cX11_trouble, 1, (some .int))
def cw (M : Mt) : Cond := Cond.code M.2.1 M.2.2.1 M.2.2.2.1 M.2.2.2.2
def MT_0 : List Mt := [mX10_init, mX8_init, mX1_init, mX7_init, mX6_init, mX2_init, mX3_init]
set_option maxRecDepth 100000 in
theorem MT_0_in : MT_0.map cw = ([29, 37, 95, 101, 140, 191, 227] : List Nat).filterMap (fun i => tables_1_1[i]?) := rfl
def MT_1 : List Mt := [mX0_init, mX4_init, mX5_init, mX9_init]
set_option maxRecDepth 100000 in
theorem MT_1_in : MT_1.map cw = ([22, 48, 67, 87] : List Nat).filterMap (fun i => tables_1_2[i]?) := rfl
def MT_2 : List Mt := [mX10_feed, mX8_hasRoom, mX8_append, mX10_table, mX10_refuse, mX8_read, mX9_clear, mX8_step, mX8_isLetter, mX8_takeWord, mX8_isDigit, mX8_takeWhole, mX8_readLine, mX8_lineSort, mX8_isWord, mJ0_length_8abf5, mJ0_coder_7d493, mJ0_charAt_5068e, mJ0_isLatin1_aae02, mJ1_charAt_3b067, mJ0_checkIndex_df160, mJ3_checkIndex_8e157, mJ2_charAt_3b067, mJ2_checkIndex_2214a, mJ2_length_9d52b, mJ2_getChar_3b067, mX8_fail, mX8_isFull, mX8_readTable, mX8_findsWhole, mX8_isWholeWithin, mX8_readPerson, mX8_findsNewName, mX8_wordHere, mX8_isSameWord, mX8_kindHere, mX8_readName, mX9_hasFrom, mX8_readFast, mX8_toldNameHere, mX9_fastingOn, mX8_readUnsure, mX9_isUnsure, mX8_readHeard, mX9_isHeardOn, mX7_begin, mJ7_fill_53178, mX4_forget, mX5_forget, mX10_answer, mX10_fault, mX10_where, mX10_person, mX10_lacksPerson]
set_option maxRecDepth 100000 in
theorem MT_2_in : MT_2.map cw = ([1, 5, 9, 13, 17, 21, 25, 32, 35, 39, 42, 46, 50, 54, 59, 63, 67, 73, 77, 80, 83, 88, 91, 94, 97, 101, 116, 119, 123, 128, 132, 138, 142, 146, 150, 154, 163, 168, 173, 177, 182, 186, 190, 194, 198, 202, 208, 212, 216, 220, 224, 228, 232, 236] : List Nat).filterMap (fun i => tables_1_3[i]?) := rfl
def MT_3 : List Mt := [mX10_name, mX10_lacksName, mX10_left, mX10_lacksTable, mX10_seen, mX7_isDead, mX7_seenHunger, mX10_calls, mX9_nameSeen, mX10_namer, mX7_whoNames, mX10_dish, mX7_nextDish, mX10_share, mX1_walk, mX1_start, mX7_copy, mX1_pass, mX6_hold, mX7_fastingNext, mX7_grow, mX7_living, mX6_seat, mX6_serve, mX7_worthOf, mX7_close, mX10_nameWith, mX10_isRefused, mX10_isOutside, mX10_dishWithGuest, mX10_greatestSeen, mX10_guestFor, mX10_namerIn, mX10_dishIn, mX10_hungerIn, mX10_leftIn, mX10_livingIn, mX10_hungriestIn, mX7_hungriest, mX10_unevenIn, mX7_unevenness, mX10_deadIn, mX10_eats, mX10_says, mX10_firstDish, mX10_named, mX10_worthIn, mX10_fastsFor, mX2_seekName, mX2_seekOn, mX7_freeToFast, mX7_endangered, mX2_keepsAll, mX2_isBetter, mJ6_bitCount_0f7a4]
set_option maxRecDepth 100000 in
theorem MT_3_in : MT_3.map cw = ([0, 4, 8, 12, 16, 20, 24, 28, 32, 36, 40, 46, 50, 56, 60, 64, 68, 73, 77, 81, 89, 93, 97, 102, 107, 114, 119, 123, 126, 130, 134, 138, 142, 146, 150, 154, 158, 163, 167, 171, 175, 181, 187, 191, 195, 199, 203, 207, 211, 216, 221, 227, 231, 236, 239] : List Nat).filterMap (fun i => tables_1_4[i]?) := rfl
def MT_4 : List Mt := [mX2_isFound, mX10_fastsAt, mX10_bestFast, mX2_seekWorth, mX2_weighFast, mX10_bestWorth, mX10_tables, mX10_bestFirstTable, mX10_worthOfTables, mX10_worthNamedBy, mX7_mostSeen, mX10_tablesWorth, mX10_bowlFor, mX10_bowlKeepsAll, mX10_fits, mX3_weigh, mX3_firstUnlike, mX9_lastHeardDay, mX10_fitAt, mX3_setAt, mX3_isFitting, mX10_could, mX10_surely, mX10_ask, mX3_whomToAsk, mX3_leftAtMost, mX10_askLeaves, mX10_judge, mX10_takes, mX10_gain, mX10_rests, mX10_isRest, mX10_rest, mX10_odds, mX0_weigh, mJ7_fill_d0a16, mX0_weighWay, mX0_lowest, mX10_mean, mX0_weightOfWorths, mX10_drawn, mX0_dishByDraws, mX10_day, mX4_keep, mX10_bid, mX10_give, mX10_pour, mX10_value, mX10_undo, mX4_takeBack, mX10_image, mX5_keep, mX10_back, mX5_show, mX10_size]
set_option maxRecDepth 100000 in
theorem MT_4_in : MT_4.map cw = ([6, 10, 14, 18, 23, 27, 31, 35, 39, 43, 47, 52, 56, 60, 64, 68, 72, 76, 84, 88, 92, 96, 100, 104, 108, 112, 117, 122, 127, 130, 134, 137, 141, 145, 150, 153, 158, 163, 167, 171, 175, 180, 185, 189, 196, 200, 205, 209, 213, 217, 221, 225, 230, 234, 238] : List Nat).filterMap (fun i => tables_1_5[i]?) := rfl
def MT_5 : List Mt := [mX10_trouble, mX10_led, mX11_init, mX11_thrown, mX11_feed, mX11_table, mX11_anew, mX11_in, mX11_no, mX11_next]
set_option maxRecDepth 100000 in
theorem MT_5_in : MT_5.map cw = ([2, 10, 76, 214, 218, 222, 226, 229, 233, 237] : List Nat).filterMap (fun i => tables_1_6[i]?) := rfl
def MT_6 : List Mt := [mX11_see, mX11_isSmall, mX11_isDigit, mX11_readLine, mX11_isWord, mX11_tableLine, mX11_wrong, mX11_after, mX11_must, mX11_takesWord, mX11_number, mX11_numberHere, mX11_pass, mX11_begins, mX11_personLine, mX11_newName, mX11_mustName, mX11_find, mX11_nameLine, mX11_fastLine, mX11_personHere, mX11_namedHere, mX11_unsureLine, mX11_heardLine, mX11_dishHere, mX11_copy, mX11_fault, mX11_where, mX11_person, mX11_isPerson, mX11_name, mX11_isName, mX11_left, mX11_seen, mX11_dawn, mX11_begin, mX11_lives, mX11_hasBit, mX11_seenOf, mX11_calls, mX11_nameAt, mX11_namer, mX11_daysOn, mX11_dayOn, mX11_fastersOf, mX11_namerOf, mX11_eatOn, mX11_dish, mX11_share, mX11_nameWith, mX11_why, mX11_seenMost, mX11_guestFor, mX11_namerIn, mX11_aheadWhy, mX11_dishIn]
set_option maxRecDepth 100000 in
theorem MT_6_in : MT_6.map cw = ([1, 4, 7, 11, 16, 22, 26, 31, 35, 39, 43, 47, 51, 58, 62, 66, 70, 78, 87, 93, 97, 101, 106, 110, 114, 117, 121, 125, 129, 133, 137, 141, 145, 149, 153, 157, 161, 164, 168, 172, 176, 180, 184, 188, 192, 196, 200, 204, 208, 212, 216, 220, 224, 228, 232, 236] : List Nat).filterMap (fun i => tables_1_7[i]?) := rfl
def MT_7 : List Mt := [mX11_hungerIn, mX11_leftIn, mX11_livingIn, mX11_everybody, mX11_hungriestIn, mX11_hungriestOf, mX11_unevenIn, mX11_deadIn, mX11_eats, mX11_within, mX11_says, mX11_firstDish, mX11_named, mX11_worthIn, mX11_fastsFor, mX11_fastWhy, mX11_fastsOf, mX11_ones, mX11_mayFast, mX11_fastsAt, mX11_bestFast, mX11_bestFastOf, mX11_bestWorth, mX11_tables, mX11_tablesOf, mX11_worthOf, mX11_tablesWorth, mX11_bowlFor, mX11_fits, mX11_seekSets, mX11_wrongBy, mX11_fitAt, mX11_could, mX11_surely, mX11_ask, mX11_askOf, mX11_leavesOf, mX11_askLeaves, mX11_judge, mX11_takes, mX11_takesOf, mX11_rests, mX11_seekRests, mX11_rest, mX11_odds, mX11_tryFlinch, mX11_lowest, mX11_mean, mX11_drawn, mX11_day, mX11_note, mX11_bid, mX11_give, mX11_pour, mX11_value, mX11_undo, mX11_isNot, mX11_image, mX11_back, mX11_led, mX11_size]
set_option maxRecDepth 100000 in
theorem MT_7_in : MT_7.map cw = ([0, 4, 8, 12, 16, 20, 24, 28, 32, 36, 40, 44, 48, 52, 56, 60, 64, 67, 71, 75, 79, 83, 87, 91, 95, 99, 103, 107, 111, 115, 119, 123, 127, 131, 135, 139, 143, 147, 151, 155, 158, 162, 166, 170, 174, 178, 181, 185, 189, 195, 199, 203, 207, 211, 215, 219, 223, 227, 231, 235, 239] : List Nat).filterMap (fun i => tables_1_8[i]?) := rfl
def MT_8 : List Mt := [mX11_trouble]
set_option maxRecDepth 100000 in
theorem MT_8_in : MT_8.map cw = ([3] : List Nat).filterMap (fun i => tables_1_9[i]?) := rfl
def MT : List Mt := MT_0 ++ (MT_1 ++ (MT_2 ++ (MT_3 ++ (MT_4 ++ (MT_5 ++ (MT_6 ++ (MT_7 ++ (MT_8))))))))
def dT : List (String × Nat) := [("()V", 0), ("(IIIII)I", 5), ("(I)Z", 1), ("(I)V", 1), ("(I)I", 1), ("(ILLeanTable$Told;)Z", 2), ("(B)Z", 1), ("(LLeanTable$Told;)Z", 1), ("()I", 0), ("(Ljava/lang/String;)Z", 1), ("()B", 0), ("(I)C", 1), ("()Z", 0), ("([BI)C", 2), ("(II)V", 2), ("(IILjava/util/function/BiFunction;)I", 3), ("(I[B)V", 2), ("([B)I", 1), ("(LLeanTable$Told;I)Z", 2), ("(Ljava/lang/String;II)Z", 3), ("(II)Z", 2), ("(ZI)Z", 2), ("(Z)I", 1), ("(LLeanTable$Told;I)V", 2), ("([II)V", 2), ("(II)I", 2), ("(LLeanTable$Told;I)I", 2), ("(LLeanTable$Told;Z)I", 2), ("(LLeanTable$Told;LLeanTable$Plight;I)V", 3), ("(LLeanTable$Plight;)V", 1), ("(LLeanTable$Told;LLeanTable$Plight;IZI)V", 5), ("(LLeanTable$Told;)I", 1), ("(LLeanTable$Told;)V", 1), ("(LLeanTable$Told;LLeanTable$Plight;I)I", 3), ("(LLeanTable$Plight;I)V", 2), ("(ZIII)Z", 4), ("(III)Z", 3), ("(LLeanTable$Told;LLeanTable$Plight;II)V", 4), ("(LLeanTable$Told;II)V", 3), ("(LLeanTable$Told;II)Z", 3), ("(LLeanTable$Told;LLeanTable$Plight;)V", 2), ("(IZZZ)I", 4), ("(IZZ)I", 3), ("(IZZ)Z", 3), ("(IIZ)J", 3), ("([JJ)V", 2), ("(JJZ)J", 3), ("(IZ)J", 2), ("(LLeanTable$Told;LLeanTable$Plight;)J", 2), ("(LLeanTable$Told;LLeanTable$Plight;II)I", 4), ("(LLeanTable$Plight;)Z", 1), ("(LLeanTable$Plight;)I", 1), ("(ILLeanTable$Plight;)Z", 2), ("(Ljava/lang/String;II)I", 3), ("(Ljava/lang/String;)V", 1), ("(Ljava/lang/String;Z)Z", 2), ("([II[III)V", 5), ("([II)Z", 2), ("([III)I", 3), ("([IIZ)V", 3), ("([I)I", 1), ("([II)I", 2), ("([III)V", 3), ("(ZZ)I", 2), ("(ZII)I", 3), ("([IZ)I", 2), ("(III)V", 3)]
theorem dT_0 : (parseMethodDescriptor "()V").map (fun d => d.parameters.length) = some 0 := by decide +kernel
theorem dT_1 : (parseMethodDescriptor "(IIIII)I").map (fun d => d.parameters.length) = some 5 := by decide +kernel
theorem dT_2 : (parseMethodDescriptor "(I)Z").map (fun d => d.parameters.length) = some 1 := by decide +kernel
theorem dT_3 : (parseMethodDescriptor "(I)V").map (fun d => d.parameters.length) = some 1 := by decide +kernel
theorem dT_4 : (parseMethodDescriptor "(I)I").map (fun d => d.parameters.length) = some 1 := by decide +kernel
theorem dT_5 : (parseMethodDescriptor "(ILLeanTable$Told;)Z").map (fun d => d.parameters.length) = some 2 := by decide +kernel
theorem dT_6 : (parseMethodDescriptor "(B)Z").map (fun d => d.parameters.length) = some 1 := by decide +kernel
theorem dT_7 : (parseMethodDescriptor "(LLeanTable$Told;)Z").map (fun d => d.parameters.length) = some 1 := by decide +kernel
theorem dT_8 : (parseMethodDescriptor "()I").map (fun d => d.parameters.length) = some 0 := by decide +kernel
theorem dT_9 : (parseMethodDescriptor "(Ljava/lang/String;)Z").map (fun d => d.parameters.length) = some 1 := by decide +kernel
theorem dT_10 : (parseMethodDescriptor "()B").map (fun d => d.parameters.length) = some 0 := by decide +kernel
theorem dT_11 : (parseMethodDescriptor "(I)C").map (fun d => d.parameters.length) = some 1 := by decide +kernel
theorem dT_12 : (parseMethodDescriptor "()Z").map (fun d => d.parameters.length) = some 0 := by decide +kernel
theorem dT_13 : (parseMethodDescriptor "([BI)C").map (fun d => d.parameters.length) = some 2 := by decide +kernel
theorem dT_14 : (parseMethodDescriptor "(II)V").map (fun d => d.parameters.length) = some 2 := by decide +kernel
theorem dT_15 : (parseMethodDescriptor "(IILjava/util/function/BiFunction;)I").map (fun d => d.parameters.length) = some 3 := by decide +kernel
theorem dT_16 : (parseMethodDescriptor "(I[B)V").map (fun d => d.parameters.length) = some 2 := by decide +kernel
theorem dT_17 : (parseMethodDescriptor "([B)I").map (fun d => d.parameters.length) = some 1 := by decide +kernel
theorem dT_18 : (parseMethodDescriptor "(LLeanTable$Told;I)Z").map (fun d => d.parameters.length) = some 2 := by decide +kernel
theorem dT_19 : (parseMethodDescriptor "(Ljava/lang/String;II)Z").map (fun d => d.parameters.length) = some 3 := by decide +kernel
theorem dT_20 : (parseMethodDescriptor "(II)Z").map (fun d => d.parameters.length) = some 2 := by decide +kernel
theorem dT_21 : (parseMethodDescriptor "(ZI)Z").map (fun d => d.parameters.length) = some 2 := by decide +kernel
theorem dT_22 : (parseMethodDescriptor "(Z)I").map (fun d => d.parameters.length) = some 1 := by decide +kernel
theorem dT_23 : (parseMethodDescriptor "(LLeanTable$Told;I)V").map (fun d => d.parameters.length) = some 2 := by decide +kernel
theorem dT_24 : (parseMethodDescriptor "([II)V").map (fun d => d.parameters.length) = some 2 := by decide +kernel
theorem dT_25 : (parseMethodDescriptor "(II)I").map (fun d => d.parameters.length) = some 2 := by decide +kernel
theorem dT_26 : (parseMethodDescriptor "(LLeanTable$Told;I)I").map (fun d => d.parameters.length) = some 2 := by decide +kernel
theorem dT_27 : (parseMethodDescriptor "(LLeanTable$Told;Z)I").map (fun d => d.parameters.length) = some 2 := by decide +kernel
theorem dT_28 : (parseMethodDescriptor "(LLeanTable$Told;LLeanTable$Plight;I)V").map (fun d => d.parameters.length) = some 3 := by decide +kernel
theorem dT_29 : (parseMethodDescriptor "(LLeanTable$Plight;)V").map (fun d => d.parameters.length) = some 1 := by decide +kernel
theorem dT_30 : (parseMethodDescriptor "(LLeanTable$Told;LLeanTable$Plight;IZI)V").map (fun d => d.parameters.length) = some 5 := by decide +kernel
theorem dT_31 : (parseMethodDescriptor "(LLeanTable$Told;)I").map (fun d => d.parameters.length) = some 1 := by decide +kernel
theorem dT_32 : (parseMethodDescriptor "(LLeanTable$Told;)V").map (fun d => d.parameters.length) = some 1 := by decide +kernel
theorem dT_33 : (parseMethodDescriptor "(LLeanTable$Told;LLeanTable$Plight;I)I").map (fun d => d.parameters.length) = some 3 := by decide +kernel
theorem dT_34 : (parseMethodDescriptor "(LLeanTable$Plight;I)V").map (fun d => d.parameters.length) = some 2 := by decide +kernel
theorem dT_35 : (parseMethodDescriptor "(ZIII)Z").map (fun d => d.parameters.length) = some 4 := by decide +kernel
theorem dT_36 : (parseMethodDescriptor "(III)Z").map (fun d => d.parameters.length) = some 3 := by decide +kernel
theorem dT_37 : (parseMethodDescriptor "(LLeanTable$Told;LLeanTable$Plight;II)V").map (fun d => d.parameters.length) = some 4 := by decide +kernel
theorem dT_38 : (parseMethodDescriptor "(LLeanTable$Told;II)V").map (fun d => d.parameters.length) = some 3 := by decide +kernel
theorem dT_39 : (parseMethodDescriptor "(LLeanTable$Told;II)Z").map (fun d => d.parameters.length) = some 3 := by decide +kernel
theorem dT_40 : (parseMethodDescriptor "(LLeanTable$Told;LLeanTable$Plight;)V").map (fun d => d.parameters.length) = some 2 := by decide +kernel
theorem dT_41 : (parseMethodDescriptor "(IZZZ)I").map (fun d => d.parameters.length) = some 4 := by decide +kernel
theorem dT_42 : (parseMethodDescriptor "(IZZ)I").map (fun d => d.parameters.length) = some 3 := by decide +kernel
theorem dT_43 : (parseMethodDescriptor "(IZZ)Z").map (fun d => d.parameters.length) = some 3 := by decide +kernel
theorem dT_44 : (parseMethodDescriptor "(IIZ)J").map (fun d => d.parameters.length) = some 3 := by decide +kernel
theorem dT_45 : (parseMethodDescriptor "([JJ)V").map (fun d => d.parameters.length) = some 2 := by decide +kernel
theorem dT_46 : (parseMethodDescriptor "(JJZ)J").map (fun d => d.parameters.length) = some 3 := by decide +kernel
theorem dT_47 : (parseMethodDescriptor "(IZ)J").map (fun d => d.parameters.length) = some 2 := by decide +kernel
theorem dT_48 : (parseMethodDescriptor "(LLeanTable$Told;LLeanTable$Plight;)J").map (fun d => d.parameters.length) = some 2 := by decide +kernel
theorem dT_49 : (parseMethodDescriptor "(LLeanTable$Told;LLeanTable$Plight;II)I").map (fun d => d.parameters.length) = some 4 := by decide +kernel
theorem dT_50 : (parseMethodDescriptor "(LLeanTable$Plight;)Z").map (fun d => d.parameters.length) = some 1 := by decide +kernel
theorem dT_51 : (parseMethodDescriptor "(LLeanTable$Plight;)I").map (fun d => d.parameters.length) = some 1 := by decide +kernel
theorem dT_52 : (parseMethodDescriptor "(ILLeanTable$Plight;)Z").map (fun d => d.parameters.length) = some 2 := by decide +kernel
theorem dT_53 : (parseMethodDescriptor "(Ljava/lang/String;II)I").map (fun d => d.parameters.length) = some 3 := by decide +kernel
theorem dT_54 : (parseMethodDescriptor "(Ljava/lang/String;)V").map (fun d => d.parameters.length) = some 1 := by decide +kernel
theorem dT_55 : (parseMethodDescriptor "(Ljava/lang/String;Z)Z").map (fun d => d.parameters.length) = some 2 := by decide +kernel
theorem dT_56 : (parseMethodDescriptor "([II[III)V").map (fun d => d.parameters.length) = some 5 := by decide +kernel
theorem dT_57 : (parseMethodDescriptor "([II)Z").map (fun d => d.parameters.length) = some 2 := by decide +kernel
theorem dT_58 : (parseMethodDescriptor "([III)I").map (fun d => d.parameters.length) = some 3 := by decide +kernel
theorem dT_59 : (parseMethodDescriptor "([IIZ)V").map (fun d => d.parameters.length) = some 3 := by decide +kernel
theorem dT_60 : (parseMethodDescriptor "([I)I").map (fun d => d.parameters.length) = some 1 := by decide +kernel
theorem dT_61 : (parseMethodDescriptor "([II)I").map (fun d => d.parameters.length) = some 2 := by decide +kernel
theorem dT_62 : (parseMethodDescriptor "([III)V").map (fun d => d.parameters.length) = some 3 := by decide +kernel
theorem dT_63 : (parseMethodDescriptor "(ZZ)I").map (fun d => d.parameters.length) = some 2 := by decide +kernel
theorem dT_64 : (parseMethodDescriptor "(ZII)I").map (fun d => d.parameters.length) = some 3 := by decide +kernel
theorem dT_65 : (parseMethodDescriptor "([IZ)I").map (fun d => d.parameters.length) = some 2 := by decide +kernel
theorem dT_66 : (parseMethodDescriptor "(III)V").map (fun d => d.parameters.length) = some 3 := by decide +kernel
theorem dT_ok : ∀ e ∈ dT, (parseMethodDescriptor e.1).map (fun d => d.parameters.length) = some e.2 := by
  unfold dT
  exact List.forall_mem_cons.mpr ⟨dT_0, List.forall_mem_cons.mpr ⟨dT_1, List.forall_mem_cons.mpr ⟨dT_2, List.forall_mem_cons.mpr ⟨dT_3, List.forall_mem_cons.mpr ⟨dT_4, List.forall_mem_cons.mpr ⟨dT_5, List.forall_mem_cons.mpr ⟨dT_6, List.forall_mem_cons.mpr ⟨dT_7, List.forall_mem_cons.mpr ⟨dT_8, List.forall_mem_cons.mpr ⟨dT_9, List.forall_mem_cons.mpr ⟨dT_10, List.forall_mem_cons.mpr ⟨dT_11, List.forall_mem_cons.mpr ⟨dT_12, List.forall_mem_cons.mpr ⟨dT_13, List.forall_mem_cons.mpr ⟨dT_14, List.forall_mem_cons.mpr ⟨dT_15, List.forall_mem_cons.mpr ⟨dT_16, List.forall_mem_cons.mpr ⟨dT_17, List.forall_mem_cons.mpr ⟨dT_18, List.forall_mem_cons.mpr ⟨dT_19, List.forall_mem_cons.mpr ⟨dT_20, List.forall_mem_cons.mpr ⟨dT_21, List.forall_mem_cons.mpr ⟨dT_22, List.forall_mem_cons.mpr ⟨dT_23, List.forall_mem_cons.mpr ⟨dT_24, List.forall_mem_cons.mpr ⟨dT_25, List.forall_mem_cons.mpr ⟨dT_26, List.forall_mem_cons.mpr ⟨dT_27, List.forall_mem_cons.mpr ⟨dT_28, List.forall_mem_cons.mpr ⟨dT_29, List.forall_mem_cons.mpr ⟨dT_30, List.forall_mem_cons.mpr ⟨dT_31, List.forall_mem_cons.mpr ⟨dT_32, List.forall_mem_cons.mpr ⟨dT_33, List.forall_mem_cons.mpr ⟨dT_34, List.forall_mem_cons.mpr ⟨dT_35, List.forall_mem_cons.mpr ⟨dT_36, List.forall_mem_cons.mpr ⟨dT_37, List.forall_mem_cons.mpr ⟨dT_38, List.forall_mem_cons.mpr ⟨dT_39, List.forall_mem_cons.mpr ⟨dT_40, List.forall_mem_cons.mpr ⟨dT_41, List.forall_mem_cons.mpr ⟨dT_42, List.forall_mem_cons.mpr ⟨dT_43, List.forall_mem_cons.mpr ⟨dT_44, List.forall_mem_cons.mpr ⟨dT_45, List.forall_mem_cons.mpr ⟨dT_46, List.forall_mem_cons.mpr ⟨dT_47, List.forall_mem_cons.mpr ⟨dT_48, List.forall_mem_cons.mpr ⟨dT_49, List.forall_mem_cons.mpr ⟨dT_50, List.forall_mem_cons.mpr ⟨dT_51, List.forall_mem_cons.mpr ⟨dT_52, List.forall_mem_cons.mpr ⟨dT_53, List.forall_mem_cons.mpr ⟨dT_54, List.forall_mem_cons.mpr ⟨dT_55, List.forall_mem_cons.mpr ⟨dT_56, List.forall_mem_cons.mpr ⟨dT_57, List.forall_mem_cons.mpr ⟨dT_58, List.forall_mem_cons.mpr ⟨dT_59, List.forall_mem_cons.mpr ⟨dT_60, List.forall_mem_cons.mpr ⟨dT_61, List.forall_mem_cons.mpr ⟨dT_62, List.forall_mem_cons.mpr ⟨dT_63, List.forall_mem_cons.mpr ⟨dT_64, List.forall_mem_cons.mpr ⟨dT_65, List.forall_mem_cons.mpr ⟨dT_66, fun _ h => absurd h List.not_mem_nil⟩⟩⟩⟩⟩⟩⟩⟩⟩⟩⟩⟩⟩⟩⟩⟩⟩⟩⟩⟩⟩⟩⟩⟩⟩⟩⟩⟩⟩⟩⟩⟩⟩⟩⟩⟩⟩⟩⟩⟩⟩⟩⟩⟩⟩⟩⟩⟩⟩⟩⟩⟩⟩⟩⟩⟩⟩⟩⟩⟩⟩⟩⟩⟩⟩⟩⟩
theorem pn_0 : plainName "LeanTable" = true ∧ "LeanTable" ≠ "java/lang/invoke/MethodHandle" ∧ "LeanTable" ≠ "java/lang/invoke/VarHandle" := by decide +kernel
theorem pn_1 : plainName "LeanTable$Reader" = true ∧ "LeanTable$Reader" ≠ "java/lang/invoke/MethodHandle" ∧ "LeanTable$Reader" ≠ "java/lang/invoke/VarHandle" := by decide +kernel
theorem pn_2 : plainName "LeanTable$Course" = true ∧ "LeanTable$Course" ≠ "java/lang/invoke/MethodHandle" ∧ "LeanTable$Course" ≠ "java/lang/invoke/VarHandle" := by decide +kernel
theorem pn_3 : plainName "LeanTable$Plight" = true ∧ "LeanTable$Plight" ≠ "java/lang/invoke/MethodHandle" ∧ "LeanTable$Plight" ≠ "java/lang/invoke/VarHandle" := by decide +kernel
theorem pn_4 : plainName "LeanTable$Meal" = true ∧ "LeanTable$Meal" ≠ "java/lang/invoke/MethodHandle" ∧ "LeanTable$Meal" ≠ "java/lang/invoke/VarHandle" := by decide +kernel
theorem pn_5 : plainName "LeanTable$FastSearch" = true ∧ "LeanTable$FastSearch" ≠ "java/lang/invoke/MethodHandle" ∧ "LeanTable$FastSearch" ≠ "java/lang/invoke/VarHandle" := by decide +kernel
theorem pn_6 : plainName "LeanTable$Hearsay" = true ∧ "LeanTable$Hearsay" ≠ "java/lang/invoke/MethodHandle" ∧ "LeanTable$Hearsay" ≠ "java/lang/invoke/VarHandle" := by decide +kernel
theorem pn_7 : plainName "LeanTable$Chances" = true ∧ "LeanTable$Chances" ≠ "java/lang/invoke/MethodHandle" ∧ "LeanTable$Chances" ≠ "java/lang/invoke/VarHandle" := by decide +kernel
theorem pn_8 : plainName "LeanTable$History" = true ∧ "LeanTable$History" ≠ "java/lang/invoke/MethodHandle" ∧ "LeanTable$History" ≠ "java/lang/invoke/VarHandle" := by decide +kernel
theorem pn_9 : plainName "LeanTable$Images" = true ∧ "LeanTable$Images" ≠ "java/lang/invoke/MethodHandle" ∧ "LeanTable$Images" ≠ "java/lang/invoke/VarHandle" := by decide +kernel
theorem pn_10 : plainName "LeanTable$Told" = true ∧ "LeanTable$Told" ≠ "java/lang/invoke/MethodHandle" ∧ "LeanTable$Told" ≠ "java/lang/invoke/VarHandle" := by decide +kernel
theorem pn_11 : plainName "java/lang/String" = true ∧ "java/lang/String" ≠ "java/lang/invoke/MethodHandle" ∧ "java/lang/String" ≠ "java/lang/invoke/VarHandle" := by decide +kernel
theorem pn_12 : plainName "java/lang/StringLatin1" = true ∧ "java/lang/StringLatin1" ≠ "java/lang/invoke/MethodHandle" ∧ "java/lang/StringLatin1" ≠ "java/lang/invoke/VarHandle" := by decide +kernel
theorem pn_13 : plainName "jdk/internal/util/Preconditions" = true ∧ "jdk/internal/util/Preconditions" ≠ "java/lang/invoke/MethodHandle" ∧ "jdk/internal/util/Preconditions" ≠ "java/lang/invoke/VarHandle" := by decide +kernel
theorem pn_14 : plainName "java/lang/StringUTF16" = true ∧ "java/lang/StringUTF16" ≠ "java/lang/invoke/MethodHandle" ∧ "java/lang/StringUTF16" ≠ "java/lang/invoke/VarHandle" := by decide +kernel
theorem pn_15 : plainName "java/util/Arrays" = true ∧ "java/util/Arrays" ≠ "java/lang/invoke/MethodHandle" ∧ "java/util/Arrays" ≠ "java/lang/invoke/VarHandle" := by decide +kernel
theorem pn_16 : plainName "java/lang/Integer" = true ∧ "java/lang/Integer" ≠ "java/lang/invoke/MethodHandle" ∧ "java/lang/Integer" ≠ "java/lang/invoke/VarHandle" := by decide +kernel
theorem pn_17 : plainName "LeanTableModel" = true ∧ "LeanTableModel" ≠ "java/lang/invoke/MethodHandle" ∧ "LeanTableModel" ≠ "java/lang/invoke/VarHandle" := by decide +kernel
def pnT : List String := ["LeanTable", "LeanTable$Reader", "LeanTable$Course", "LeanTable$Plight", "LeanTable$Meal", "LeanTable$FastSearch", "LeanTable$Hearsay", "LeanTable$Chances", "LeanTable$History", "LeanTable$Images", "LeanTable$Told", "java/lang/String", "java/lang/StringLatin1", "jdk/internal/util/Preconditions", "java/lang/StringUTF16", "java/util/Arrays", "java/lang/Integer", "LeanTableModel"]
theorem pnT_ok : ∀ c ∈ pnT, plainName c = true ∧ c ≠ "java/lang/invoke/MethodHandle" ∧ c ≠ "java/lang/invoke/VarHandle" := by
  unfold pnT
  exact List.forall_mem_cons.mpr ⟨pn_0, List.forall_mem_cons.mpr ⟨pn_1, List.forall_mem_cons.mpr ⟨pn_2, List.forall_mem_cons.mpr ⟨pn_3, List.forall_mem_cons.mpr ⟨pn_4, List.forall_mem_cons.mpr ⟨pn_5, List.forall_mem_cons.mpr ⟨pn_6, List.forall_mem_cons.mpr ⟨pn_7, List.forall_mem_cons.mpr ⟨pn_8, List.forall_mem_cons.mpr ⟨pn_9, List.forall_mem_cons.mpr ⟨pn_10, List.forall_mem_cons.mpr ⟨pn_11, List.forall_mem_cons.mpr ⟨pn_12, List.forall_mem_cons.mpr ⟨pn_13, List.forall_mem_cons.mpr ⟨pn_14, List.forall_mem_cons.mpr ⟨pn_15, List.forall_mem_cons.mpr ⟨pn_16, List.forall_mem_cons.mpr ⟨pn_17, fun _ h => absurd h List.not_mem_nil⟩⟩⟩⟩⟩⟩⟩⟩⟩⟩⟩⟩⟩⟩⟩⟩⟩⟩
def okm (e : Mt × (Nat × Nat × Nat × Nat × Nat × Nat × Nat)) : Bool := match e with
  | (M, (kd, n, dj, cj, p1, p2, p3)) => decide (dT[dj]? = some (M.2.1.desc, n)) && decide (pnT[cj]? = some M.2.1.cls) && decide (lw_tbl[p3]? = some (.initialized M.2.1.cls)) &&
    (match kd with
     | 0 => decide (lw_tbl[p1]? = some (.instanceMethod M.2.1)) && decide (lw_tbl[p2]? = some (.selects M.2.1.cls M.2.1 M.2.1))
     | 1 => decide (lw_tbl[p1]? = some (.static M.2.1))
     | _ => decide (lw_tbl[p1]? = some (.instanceMethod M.2.1)) && decide (M.2.1.name = "<init>"))
def MI_0 : List (Nat × Nat × Nat × Nat × Nat × Nat × Nat) := [(2, 0, 0, 0, 127, 0, 100), (2, 0, 0, 1, 135, 0, 101), (2, 0, 0, 2, 193, 0, 102), (2, 0, 0, 3, 199, 0, 103), (2, 0, 0, 4, 238, 0, 104), (2, 0, 0, 5, 289, 0, 105), (2, 0, 0, 6, 325, 0, 106)]
set_option maxRecDepth 100000 in
theorem MI_0_ok : (MT_0.zip MI_0).all okm = true := by decide +kernel
theorem MI_0_len : MT_0.length = MI_0.length := by decide +kernel
def MI_1 : List (Nat × Nat × Nat × Nat × Nat × Nat × Nat) := [(2, 0, 0, 7, 360, 0, 107), (2, 0, 0, 8, 386, 0, 108), (2, 0, 0, 9, 405, 0, 109), (2, 0, 0, 10, 425, 0, 110)]
set_option maxRecDepth 100000 in
theorem MI_1_ok : (MT_1.zip MI_1).all okm = true := by decide +kernel
theorem MI_1_len : MT_1.length = MI_1.length := by decide +kernel
def MI_2 : List (Nat × Nat × Nat × Nat × Nat × Nat × Nat) := [(0, 5, 1, 0, 578, 579, 100), (0, 1, 2, 1, 582, 583, 101), (0, 1, 3, 1, 586, 587, 101), (0, 1, 4, 0, 590, 591, 100), (0, 1, 4, 0, 595, 0, 100), (0, 2, 5, 1, 598, 599, 101), (0, 0, 0, 10, 602, 603, 110), (0, 0, 0, 1, 610, 1, 101), (1, 1, 6, 1, 613, 0, 101), (0, 0, 0, 1, 617, 2, 101), (1, 1, 6, 1, 620, 0, 101), (0, 0, 0, 1, 624, 3, 101), (0, 1, 7, 1, 628, 4, 101), (0, 0, 8, 1, 632, 5, 101), (0, 1, 9, 1, 637, 6, 101), (0, 0, 8, 11, 640, 641, 113), (0, 0, 10, 11, 644, 645, 113), (0, 1, 11, 11, 650, 651, 113), (0, 0, 12, 11, 654, 655, 113), (1, 2, 13, 12, 658, 0, 114), (1, 2, 14, 11, 661, 0, 113), (1, 3, 15, 13, 666, 0, 115), (1, 2, 13, 14, 669, 0, 116), (1, 2, 16, 14, 672, 0, 116), (1, 1, 17, 14, 675, 0, 116), (1, 2, 13, 14, 679, 0, 116), (0, 1, 2, 1, 694, 7, 101), (1, 2, 18, 1, 697, 0, 101), (0, 1, 7, 1, 701, 8, 101), (0, 3, 19, 1, 706, 9, 101), (0, 2, 20, 1, 710, 10, 101), (0, 1, 7, 1, 716, 11, 101), (0, 2, 21, 1, 720, 12, 101), (0, 0, 8, 1, 724, 13, 101), (0, 1, 2, 1, 728, 14, 101), (0, 0, 8, 1, 732, 15, 101), (0, 1, 7, 1, 741, 16, 101), (0, 1, 2, 10, 745, 746, 110), (0, 1, 7, 1, 751, 17, 101), (0, 1, 22, 1, 755, 18, 101), (0, 1, 4, 10, 759, 760, 110), (0, 1, 7, 1, 764, 19, 101), (0, 1, 2, 10, 767, 768, 110), (0, 1, 7, 1, 772, 20, 101), (0, 1, 2, 10, 775, 776, 110), (0, 2, 23, 3, 779, 780, 103), (1, 2, 24, 15, 786, 0, 118), (0, 0, 0, 8, 789, 790, 108), (0, 0, 0, 9, 793, 794, 109), (0, 1, 4, 0, 798, 21, 100), (0, 0, 8, 0, 801, 802, 100), (0, 0, 8, 0, 805, 806, 100), (0, 2, 25, 0, 809, 810, 100), (0, 1, 2, 0, 814, 22, 100)]
set_option maxRecDepth 100000 in
theorem MI_2_ok : (MT_2.zip MI_2).all okm = true := by decide +kernel
theorem MI_2_len : MT_2.length = MI_2.length := by decide +kernel
def MI_3 : List (Nat × Nat × Nat × Nat × Nat × Nat × Nat) := [(0, 2, 25, 0, 817, 818, 100), (0, 1, 2, 0, 822, 23, 100), (0, 0, 8, 0, 825, 826, 100), (0, 0, 12, 0, 830, 24, 100), (0, 1, 4, 0, 833, 834, 100), (0, 1, 2, 3, 837, 838, 103), (0, 2, 26, 3, 841, 842, 103), (0, 1, 4, 0, 845, 846, 100), (0, 1, 4, 10, 849, 850, 110), (0, 0, 8, 0, 853, 854, 100), (0, 2, 27, 3, 857, 858, 103), (0, 0, 8, 0, 863, 864, 100), (0, 2, 27, 3, 867, 868, 103), (0, 1, 4, 0, 873, 874, 100), (0, 3, 28, 2, 877, 878, 102), (0, 1, 29, 2, 881, 882, 102), (0, 1, 29, 3, 885, 886, 103), (0, 2, 23, 2, 890, 891, 102), (0, 5, 30, 4, 894, 895, 104), (0, 1, 31, 3, 898, 899, 103), (0, 1, 32, 3, 906, 907, 103), (0, 1, 31, 3, 910, 911, 103), (0, 3, 33, 4, 915, 25, 104), (0, 2, 34, 4, 920, 26, 104), (0, 1, 4, 3, 924, 925, 103), (0, 2, 23, 3, 931, 932, 103), (0, 1, 4, 0, 936, 937, 100), (0, 4, 35, 0, 941, 27, 100), (1, 3, 36, 0, 944, 0, 100), (0, 1, 4, 0, 948, 28, 100), (0, 0, 8, 0, 952, 29, 100), (0, 1, 4, 0, 955, 956, 100), (0, 1, 4, 0, 959, 960, 100), (0, 1, 4, 0, 963, 964, 100), (0, 2, 25, 0, 967, 968, 100), (0, 1, 4, 0, 971, 972, 100), (0, 1, 4, 0, 975, 976, 100), (0, 1, 4, 0, 980, 981, 100), (0, 1, 31, 3, 984, 985, 103), (0, 1, 4, 0, 988, 989, 100), (0, 1, 31, 3, 992, 993, 103), (0, 1, 4, 0, 998, 999, 100), (0, 2, 25, 0, 1004, 1005, 100), (0, 2, 25, 0, 1008, 1009, 100), (0, 1, 4, 0, 1012, 1013, 100), (0, 1, 4, 0, 1016, 1017, 100), (0, 1, 4, 0, 1020, 1021, 100), (0, 2, 25, 0, 1024, 1025, 100), (0, 4, 37, 5, 1028, 1029, 105), (0, 3, 38, 5, 1034, 30, 105), (0, 1, 31, 3, 1038, 1039, 103), (0, 1, 31, 3, 1044, 1045, 103), (0, 3, 39, 5, 1049, 31, 105), (0, 1, 2, 5, 1054, 32, 105), (1, 1, 4, 16, 1057, 0, 119)]
set_option maxRecDepth 100000 in
theorem MI_3_ok : (MT_3.zip MI_3).all okm = true := by decide +kernel
theorem MI_3_len : MT_3.length = MI_3.length := by decide +kernel
def MI_4 : List (Nat × Nat × Nat × Nat × Nat × Nat × Nat) := [(0, 0, 12, 5, 1063, 1064, 105), (0, 2, 25, 0, 1067, 1068, 100), (0, 0, 8, 0, 1071, 1072, 100), (0, 2, 40, 5, 1075, 1076, 105), (0, 2, 14, 5, 1081, 33, 105), (0, 0, 8, 0, 1084, 1085, 100), (0, 0, 8, 0, 1088, 1089, 100), (0, 0, 8, 0, 1093, 34, 100), (0, 1, 4, 0, 1097, 35, 100), (0, 1, 4, 0, 1101, 36, 100), (0, 2, 26, 3, 1104, 1105, 103), (0, 0, 8, 0, 1109, 1110, 100), (0, 1, 4, 0, 1113, 1114, 100), (0, 2, 20, 0, 1118, 37, 100), (0, 0, 8, 0, 1121, 1122, 100), (0, 1, 32, 6, 1125, 1126, 106), (0, 2, 26, 6, 1129, 1130, 106), (0, 0, 8, 10, 1133, 1134, 110), (0, 1, 4, 0, 1141, 1142, 100), (0, 1, 4, 6, 1145, 1146, 106), (0, 1, 2, 6, 1150, 38, 106), (0, 0, 8, 0, 1153, 1154, 100), (0, 0, 8, 0, 1157, 1158, 100), (0, 0, 8, 0, 1161, 1162, 100), (0, 1, 31, 6, 1165, 1166, 106), (0, 1, 4, 6, 1169, 1170, 106), (0, 0, 8, 0, 1174, 1175, 100), (0, 0, 8, 0, 1179, 1180, 100), (0, 4, 41, 0, 1184, 1185, 100), (1, 3, 42, 0, 1188, 0, 100), (0, 1, 4, 0, 1191, 1192, 100), (1, 3, 43, 0, 1195, 0, 100), (0, 1, 4, 0, 1198, 1199, 100), (0, 3, 44, 0, 1202, 1203, 100), (0, 3, 28, 7, 1207, 1208, 107), (1, 2, 45, 15, 1211, 0, 118), (0, 4, 37, 7, 1216, 39, 107), (1, 3, 46, 7, 1221, 0, 107), (0, 2, 47, 0, 1224, 1225, 100), (0, 2, 48, 7, 1228, 1229, 107), (0, 2, 25, 0, 1232, 1233, 100), (0, 4, 49, 7, 1237, 1238, 107), (0, 0, 8, 0, 1242, 1243, 100), (0, 1, 29, 8, 1246, 1247, 108), (0, 1, 4, 0, 1253, 1254, 100), (0, 2, 25, 0, 1257, 1258, 100), (0, 1, 4, 0, 1262, 1263, 100), (0, 2, 25, 0, 1266, 1267, 100), (0, 0, 12, 0, 1270, 1271, 100), (0, 1, 50, 8, 1274, 1275, 108), (0, 0, 8, 0, 1278, 1279, 100), (0, 1, 51, 9, 1282, 1283, 109), (0, 1, 2, 0, 1287, 1288, 100), (0, 2, 52, 9, 1291, 1292, 109), (0, 1, 4, 0, 1295, 1296, 100)]
set_option maxRecDepth 100000 in
theorem MI_4_ok : (MT_4.zip MI_4).all okm = true := by decide +kernel
theorem MI_4_len : MT_4.length = MI_4.length := by decide +kernel
def MI_5 : List (Nat × Nat × Nat × Nat × Nat × Nat × Nat) := [(0, 0, 8, 0, 1299, 1300, 100), (0, 1, 4, 0, 1307, 1308, 100), (2, 0, 0, 17, 1374, 0, 111), (0, 0, 8, 17, 1511, 1512, 111), (0, 5, 1, 17, 1515, 1516, 111), (0, 1, 4, 17, 1519, 1520, 111), (0, 0, 0, 17, 1524, 41, 111), (1, 3, 36, 17, 1527, 0, 111), (0, 1, 4, 17, 1531, 42, 111), (0, 0, 0, 17, 1535, 43, 111)]
set_option maxRecDepth 100000 in
theorem MI_5_ok : (MT_5.zip MI_5).all okm = true := by decide +kernel
theorem MI_5_len : MT_5.length = MI_5.length := by decide +kernel
def MI_6 : List (Nat × Nat × Nat × Nat × Nat × Nat × Nat) := [(0, 1, 4, 17, 1539, 44, 111), (1, 1, 2, 17, 1542, 0, 111), (1, 1, 2, 17, 1545, 0, 111), (0, 0, 0, 17, 1549, 45, 111), (0, 1, 9, 17, 1554, 46, 111), (0, 0, 0, 17, 1560, 47, 111), (0, 2, 14, 17, 1564, 48, 111), (0, 3, 53, 17, 1569, 49, 111), (0, 1, 54, 17, 1573, 50, 111), (0, 1, 9, 17, 1577, 51, 111), (0, 2, 25, 17, 1581, 52, 111), (0, 2, 25, 17, 1585, 53, 111), (0, 0, 0, 17, 1589, 54, 111), (0, 2, 55, 17, 1596, 55, 111), (0, 0, 0, 17, 1600, 56, 111), (0, 1, 3, 17, 1604, 57, 111), (0, 0, 0, 17, 1608, 58, 111), (0, 0, 8, 17, 1616, 59, 111), (0, 0, 0, 17, 1625, 60, 111), (0, 0, 0, 17, 1631, 61, 111), (0, 0, 8, 17, 1635, 62, 111), (0, 2, 25, 17, 1639, 63, 111), (0, 0, 0, 17, 1644, 64, 111), (0, 0, 0, 17, 1648, 65, 111), (0, 0, 8, 17, 1652, 66, 111), (1, 5, 56, 17, 1655, 0, 111), (0, 0, 8, 17, 1658, 1659, 111), (0, 0, 8, 17, 1662, 1663, 111), (0, 2, 25, 17, 1666, 1667, 111), (0, 1, 2, 17, 1671, 67, 111), (0, 2, 25, 17, 1674, 1675, 111), (0, 1, 2, 17, 1679, 68, 111), (0, 0, 8, 17, 1682, 1683, 111), (0, 1, 4, 17, 1686, 1687, 111), (0, 0, 0, 17, 1691, 69, 111), (0, 0, 0, 17, 1695, 70, 111), (0, 2, 57, 17, 1699, 71, 111), (1, 2, 20, 17, 1702, 0, 111), (0, 3, 58, 17, 1706, 72, 111), (0, 1, 4, 17, 1709, 1710, 111), (0, 1, 4, 17, 1714, 73, 111), (0, 0, 8, 17, 1717, 1718, 111), (0, 1, 3, 17, 1722, 74, 111), (0, 3, 59, 17, 1726, 75, 111), (0, 1, 60, 17, 1730, 76, 111), (0, 2, 61, 17, 1734, 77, 111), (0, 3, 62, 17, 1738, 78, 111), (0, 0, 8, 17, 1741, 1742, 111), (0, 1, 4, 17, 1745, 1746, 111), (0, 1, 4, 17, 1749, 1750, 111), (0, 2, 63, 17, 1754, 79, 111), (0, 0, 8, 17, 1758, 80, 111), (0, 1, 4, 17, 1761, 1762, 111), (0, 1, 4, 17, 1765, 1766, 111), (0, 3, 64, 17, 1770, 81, 111), (0, 1, 4, 17, 1773, 1774, 111)]
set_option maxRecDepth 100000 in
theorem MI_6_ok : (MT_6.zip MI_6).all okm = true := by decide +kernel
theorem MI_6_len : MT_6.length = MI_6.length := by decide +kernel
def MI_7 : List (Nat × Nat × Nat × Nat × Nat × Nat × Nat) := [(0, 2, 25, 17, 1777, 1778, 111), (0, 1, 4, 17, 1781, 1782, 111), (0, 1, 4, 17, 1785, 1786, 111), (0, 0, 8, 17, 1790, 82, 111), (0, 1, 4, 17, 1793, 1794, 111), (0, 2, 65, 17, 1798, 83, 111), (0, 1, 4, 17, 1801, 1802, 111), (0, 1, 4, 17, 1805, 1806, 111), (0, 2, 25, 17, 1809, 1810, 111), (0, 3, 66, 17, 1814, 84, 111), (0, 2, 25, 17, 1817, 1818, 111), (0, 1, 4, 17, 1821, 1822, 111), (0, 1, 4, 17, 1825, 1826, 111), (0, 1, 4, 17, 1829, 1830, 111), (0, 2, 25, 17, 1833, 1834, 111), (0, 2, 25, 17, 1838, 85, 111), (0, 2, 25, 17, 1842, 86, 111), (1, 1, 4, 17, 1845, 0, 111), (0, 2, 20, 17, 1849, 87, 111), (0, 2, 25, 17, 1852, 1853, 111), (0, 0, 8, 17, 1856, 1857, 111), (0, 0, 8, 17, 1861, 88, 111), (0, 0, 8, 17, 1864, 1865, 111), (0, 0, 8, 17, 1868, 1869, 111), (0, 0, 8, 17, 1873, 89, 111), (0, 1, 4, 17, 1877, 90, 111), (0, 0, 8, 17, 1880, 1881, 111), (0, 1, 4, 17, 1884, 1885, 111), (0, 0, 8, 17, 1888, 1889, 111), (0, 1, 4, 17, 1893, 91, 111), (0, 1, 4, 17, 1897, 92, 111), (0, 1, 4, 17, 1900, 1901, 111), (0, 0, 8, 17, 1904, 1905, 111), (0, 0, 8, 17, 1908, 1909, 111), (0, 0, 8, 17, 1912, 1913, 111), (0, 0, 8, 17, 1917, 93, 111), (0, 1, 4, 17, 1921, 94, 111), (0, 0, 8, 17, 1924, 1925, 111), (0, 0, 8, 17, 1928, 1929, 111), (0, 4, 41, 17, 1932, 1933, 111), (1, 3, 42, 17, 1936, 0, 111), (0, 1, 4, 17, 1939, 1940, 111), (0, 1, 4, 17, 1944, 95, 111), (0, 1, 4, 17, 1947, 1948, 111), (0, 3, 44, 17, 1951, 1952, 111), (0, 2, 14, 17, 1956, 96, 111), (1, 3, 46, 17, 1959, 0, 111), (0, 2, 47, 17, 1962, 1963, 111), (0, 2, 25, 17, 1966, 1967, 111), (0, 0, 8, 17, 1972, 1973, 111), (0, 0, 0, 17, 1977, 97, 111), (0, 1, 4, 17, 1980, 1981, 111), (0, 2, 25, 17, 1984, 1985, 111), (0, 1, 4, 17, 1988, 1989, 111), (0, 2, 25, 17, 1992, 1993, 111), (0, 0, 12, 17, 1996, 1997, 111), (0, 1, 2, 17, 2001, 98, 111), (0, 0, 8, 17, 2004, 2005, 111), (0, 1, 2, 17, 2008, 2009, 111), (0, 1, 4, 17, 2012, 2013, 111), (0, 1, 4, 17, 2016, 2017, 111)]
set_option maxRecDepth 100000 in
theorem MI_7_ok : (MT_7.zip MI_7).all okm = true := by decide +kernel
theorem MI_7_len : MT_7.length = MI_7.length := by decide +kernel
def MI_8 : List (Nat × Nat × Nat × Nat × Nat × Nat × Nat) := [(0, 0, 8, 17, 2020, 2021, 111)]
set_option maxRecDepth 100000 in
theorem MI_8_ok : (MT_8.zip MI_8).all okm = true := by decide +kernel
theorem MI_8_len : MT_8.length = MI_8.length := by decide +kernel
def fT : List (Nat × Nat × Nat × Nat × Nat) := [(8, 29, 8, 0, 138), (10, 90, 8, 0, 139), (10, 102, 8, 1, 140), (8, 57, 8, 1, 141), (8, 60, 8, 2, 142), (10, 125, 8, 2, 143), (8, 9, 8, 3, 144), (8, 15, 8, 4, 145), (8, 19, 8, 5, 146), (8, 22, 8, 6, 147), (8, 26, 8, 7, 148), (8, 50, 8, 8, 149), (8, 44, 8, 9, 150), (8, 211, 8, 10, 151), (8, 47, 8, 11, 152), (8, 70, 8, 12, 153), (8, 127, 8, 13, 154), (8, 53, 8, 14, 155), (7, 9, 7, 0, 202), (6, 76, 7, 0, 203), (10, 131, 7, 0, 204), (7, 15, 7, 1, 205), (10, 141, 7, 1, 206), (7, 18, 7, 2, 207), (0, 68, 7, 2, 208), (10, 156, 7, 2, 209), (7, 47, 7, 3, 210), (2, 80, 7, 3, 211), (10, 144, 7, 3, 212), (7, 50, 7, 4, 213), (10, 147, 7, 4, 214), (6, 56, 7, 5, 215), (7, 53, 7, 5, 216), (10, 163, 7, 5, 217), (7, 56, 7, 6, 218), (10, 332, 7, 6, 219), (6, 9, 6, 0, 241), (1, 61, 6, 0, 242), (10, 202, 6, 0, 243), (6, 15, 6, 1, 244), (3, 72, 6, 1, 245), (1, 64, 6, 1, 246), (0, 62, 6, 1, 247), (10, 205, 6, 1, 248), (6, 18, 6, 2, 249), (1, 58, 6, 2, 250), (6, 22, 6, 3, 251), (1, 12, 1, 0, 261), (10, 208, 1, 0, 262), (1, 21, 1, 1, 263), (10, 201, 1, 1, 264), (1, 25, 1, 2, 265), (10, 187, 1, 2, 266), (1, 29, 1, 3, 267), (10, 231, 1, 3, 268), (1, 42, 1, 4, 269), (10, 234, 1, 4, 270), (1, 46, 1, 5, 271), (10, 237, 1, 5, 272), (2, 25, 2, 0, 297), (10, 247, 2, 0, 298), (2, 35, 2, 1, 299), (10, 250, 2, 1, 300), (2, 83, 2, 2, 301), (10, 257, 2, 2, 302), (2, 11, 2, 3, 303), (2, 20, 2, 4, 304), (2, 29, 2, 5, 305), (2, 32, 2, 6, 306), (3, 33, 3, 0, 332), (10, 274, 3, 0, 333), (3, 36, 3, 1, 334), (10, 280, 3, 1, 335), (3, 39, 3, 2, 336), (10, 283, 3, 2, 337), (3, 29, 3, 3, 338), (3, 9, 3, 4, 339), (3, 18, 3, 5, 340), (3, 25, 3, 6, 341), (0, 35, 0, 0, 367), (10, 311, 0, 0, 368), (0, 9, 0, 1, 369), (10, 307, 0, 1, 370), (0, 18, 0, 2, 371), (0, 25, 0, 3, 372), (4, 26, 4, 0, 391), (10, 380, 4, 0, 392), (4, 18, 4, 1, 393), (4, 11, 4, 2, 394), (5, 18, 5, 0, 410), (10, 381, 5, 0, 411), (5, 11, 5, 1, 412), (9, 45, 9, 0, 428), (3, 65, 9, 0, 429), (0, 55, 9, 0, 430), (1, 74, 9, 0, 431), (2, 71, 9, 0, 432), (8, 130, 9, 0, 433), (10, 225, 9, 0, 434), (9, 49, 9, 1, 435), (8, 134, 9, 1, 436), (7, 80, 9, 1, 437), (10, 362, 9, 1, 438), (9, 52, 9, 2, 439), (0, 49, 9, 2, 440), (8, 138, 9, 2, 441), (10, 365, 9, 2, 442), (9, 55, 9, 3, 443), (6, 73, 9, 3, 444), (1, 53, 9, 3, 445), (10, 116, 9, 3, 446), (8, 77, 9, 3, 447), (7, 59, 9, 3, 448), (9, 58, 9, 4, 449), (0, 65, 9, 4, 450), (8, 109, 9, 4, 451), (10, 368, 9, 4, 452), (9, 61, 9, 5, 453), (8, 112, 9, 5, 454), (10, 371, 9, 5, 455), (3, 42, 9, 6, 456), (9, 64, 9, 6, 457), (7, 37, 9, 6, 458), (8, 115, 9, 6, 459), (10, 374, 9, 6, 460), (9, 67, 9, 7, 461), (3, 75, 9, 7, 462), (8, 118, 9, 7, 463), (10, 377, 9, 7, 464), (9, 9, 9, 8, 465), (7, 21, 9, 8, 466), (8, 152, 9, 8, 467), (9, 15, 9, 9, 468), (10, 135, 9, 9, 469), (7, 77, 9, 9, 470), (8, 156, 9, 9, 471), (9, 18, 9, 10, 472), (10, 138, 9, 10, 473), (8, 147, 9, 10, 474), (7, 83, 9, 10, 475), (9, 21, 9, 11, 476), (10, 153, 9, 11, 477), (8, 160, 9, 11, 478), (9, 24, 9, 12, 479), (7, 30, 9, 12, 480), (8, 164, 9, 12, 481), (9, 27, 9, 13, 482), (8, 176, 9, 13, 483), (9, 30, 9, 14, 484), (8, 179, 9, 14, 485), (9, 33, 9, 15, 486), (7, 41, 9, 15, 487), (8, 189, 9, 15, 488), (9, 36, 9, 16, 489), (7, 44, 9, 16, 490), (8, 192, 9, 16, 491), (9, 39, 9, 17, 492), (3, 81, 9, 17, 493), (8, 198, 9, 17, 494), (9, 42, 9, 18, 495), (3, 78, 9, 18, 496), (8, 201, 9, 18, 497), (10, 10, 10, 0, 537), (10, 19, 10, 1, 538), (10, 26, 10, 2, 539), (10, 33, 10, 3, 540), (10, 40, 10, 4, 541), (10, 47, 10, 5, 542), (10, 54, 10, 6, 543), (10, 61, 10, 7, 544), (10, 68, 10, 8, 545), (10, 75, 10, 9, 546), (10, 79, 10, 10, 547), (10, 122, 10, 11, 548), (10, 105, 10, 12, 549), (11, 53, 11, 0, 1377), (11, 7, 11, 1, 1378), (11, 59, 11, 2, 1379), (11, 62, 11, 3, 1380), (11, 72, 11, 4, 1381), (11, 65, 11, 5, 1382), (11, 81, 11, 6, 1383), (11, 78, 11, 7, 1384), (11, 75, 11, 8, 1385), (11, 95, 11, 9, 1386), (11, 13, 11, 10, 1387), (11, 56, 11, 11, 1388), (11, 17, 11, 12, 1389), (11, 91, 11, 13, 1390), (11, 174, 11, 14, 1391), (11, 20, 11, 15, 1392), (11, 23, 11, 16, 1393), (11, 26, 11, 17, 1394), (11, 29, 11, 18, 1395), (11, 32, 11, 19, 1396), (11, 35, 11, 20, 1397), (11, 38, 11, 21, 1398), (11, 41, 11, 22, 1399), (11, 177, 11, 23, 1400), (11, 180, 11, 24, 1401), (11, 268, 11, 25, 1402), (11, 257, 11, 26, 1403), (11, 44, 11, 27, 1404), (11, 47, 11, 28, 1405), (11, 311, 11, 29, 1406), (11, 314, 11, 30, 1407), (11, 317, 11, 31, 1408), (11, 320, 11, 32, 1409), (11, 323, 11, 33, 1410), (11, 342, 11, 34, 1411), (11, 348, 11, 35, 1412), (11, 50, 11, 36, 1413), (11, 357, 11, 37, 1414), (11, 360, 11, 38, 1415), (11, 363, 11, 39, 1416), (11, 382, 11, 40, 1417), (11, 388, 11, 41, 1418), (11, 392, 11, 42, 1419), (11, 395, 11, 43, 1420)]
def okf (e : Nat × Nat × Nat × Nat × Nat) : Bool := match vwCl[e.2.2.1]? with
  | some (_, T, N) => decide (e.2.2.2.1 < N) && decide (lw_tbl[e.2.2.2.2]? = some (.fieldLink (cN e.1) e.2.1 (T e.2.2.2.1).1 (T e.2.2.2.1).2.1 (T e.2.2.2.1).2.2.1)) && decide ((T e.2.2.2.1).1 = cN e.2.2.1)
  | none => false
theorem fT_ok : fT.all okf = true := by decide +kernel
def lT : List (Nat × Nat × Nat × Nat) := [(12, 15, 0, 126), (10, 25, 5, 288), (10, 46, 8, 385), (10, 53, 9, 404), (12, 19, 11, 577), (10, 82, 12, 581), (10, 86, 13, 585), (12, 24, 14, 589), (10, 94, 15, 593), (10, 98, 16, 597), (8, 33, 17, 601), (8, 63, 18, 608), (8, 242, 19, 612), (8, 246, 20, 615), (8, 249, 21, 619), (8, 252, 22, 622), (8, 66, 23, 626), (8, 83, 24, 630), (8, 204, 25, 635), (8, 233, 26, 639), (8, 238, 28, 649), (8, 73, 37, 692), (8, 87, 38, 696), (8, 91, 39, 699), (8, 123, 40, 704), (8, 185, 41, 708), (8, 94, 42, 714), (8, 140, 43, 718), (8, 208, 44, 722), (8, 214, 45, 726), (8, 144, 46, 730), (8, 97, 47, 739), (8, 80, 48, 744), (8, 100, 49, 749), (8, 166, 50, 753), (8, 172, 51, 758), (8, 103, 52, 762), (8, 182, 53, 766), (8, 106, 54, 770), (8, 195, 55, 774), (10, 108, 56, 778), (7, 31, 57, 785), (10, 112, 58, 788), (10, 115, 59, 792), (10, 119, 60, 796), (12, 28, 61, 800), (12, 33, 62, 804), (12, 37, 63, 808), (10, 128, 64, 812), (12, 42, 65, 816), (10, 150, 66, 820), (12, 46, 67, 824), (10, 159, 68, 828), (12, 50, 69, 832), (10, 166, 70, 836), (10, 169, 71, 840), (12, 54, 72, 844), (10, 173, 73, 848), (12, 58, 74, 852), (10, 176, 75, 856), (7, 73, 70, 860), (7, 86, 71, 861), (12, 62, 76, 862), (10, 180, 77, 866), (7, 90, 75, 870), (7, 94, 73, 871), (12, 66, 78, 872), (10, 183, 79, 876), (1, 71, 80, 880), (1, 32, 81, 884), (1, 36, 57, 888), (1, 77, 82, 889), (1, 49, 83, 893), (6, 25, 84, 897), (7, 62, 51, 901), (6, 31, 75, 902), (6, 35, 71, 903), (6, 39, 73, 904), (6, 45, 85, 905), (6, 49, 86, 909), (6, 52, 87, 913), (6, 65, 88, 918), (6, 79, 57, 922), (6, 85, 89, 923), (6, 69, 90, 930), (1, 67, 89, 934), (12, 70, 91, 935), (10, 190, 92, 939), (10, 324, 93, 943), (10, 194, 94, 946), (10, 197, 95, 950), (12, 74, 96, 954), (12, 78, 97, 958), (12, 82, 98, 962), (12, 86, 99, 966), (12, 90, 100, 970), (12, 94, 101, 974), (10, 211, 86, 978), (12, 98, 102, 979), (10, 215, 103, 983), (12, 102, 104, 987), (10, 218, 105, 991), (7, 97, 103, 995), (12, 106, 106, 997), (10, 221, 80, 1001), (10, 228, 82, 1002), (12, 110, 107, 1003), (12, 114, 108, 1007), (12, 118, 109, 1011), (12, 122, 110, 1015), (12, 126, 111, 1019), (12, 130, 112, 1023), (10, 240, 113, 1027), (2, 38, 81, 1031), (2, 42, 114, 1032), (2, 46, 77, 1036), (2, 50, 115, 1037), (7, 66, 86, 1041), (7, 70, 84, 1042), (2, 54, 116, 1043), (2, 57, 117, 1047), (2, 76, 83, 1051), (2, 61, 118, 1052), (2, 65, 119, 1056), (10, 244, 120, 1062), (12, 134, 121, 1066), (12, 138, 122, 1070), (10, 253, 123, 1074), (2, 86, 89, 1078), (2, 89, 124, 1079), (12, 142, 125, 1083), (12, 146, 126, 1087), (10, 260, 127, 1091), (10, 263, 128, 1095), (10, 382, 129, 1099), (10, 385, 130, 1103), (10, 388, 89, 1107), (12, 150, 131, 1108), (12, 154, 132, 1112), (10, 266, 133, 1116), (12, 158, 134, 1120), (10, 270, 135, 1124), (3, 47, 136, 1128), (3, 51, 137, 1132), (3, 61, 56, 1138), (3, 68, 83, 1139), (12, 162, 138, 1140), (10, 277, 139, 1144), (3, 84, 140, 1148), (12, 166, 141, 1152), (12, 170, 142, 1156), (12, 174, 143, 1160), (10, 286, 144, 1164), (3, 88, 145, 1168), (12, 178, 146, 1173), (10, 289, 145, 1177), (12, 182, 147, 1178), (10, 292, 136, 1182), (12, 186, 148, 1183), (10, 295, 149, 1187), (12, 191, 150, 1190), (10, 299, 151, 1194), (12, 195, 152, 1197), (12, 199, 153, 1201), (10, 305, 154, 1206), (0, 29, 155, 1210), (0, 41, 156, 1214), (0, 45, 81, 1218), (0, 58, 83, 1219), (10, 315, 157, 1220), (12, 204, 158, 1223), (10, 319, 159, 1227), (12, 209, 160, 1231), (10, 328, 161, 1236), (12, 213, 162, 1241), (10, 335, 163, 1245), (4, 22, 81, 1249), (10, 338, 83, 1251), (12, 217, 164, 1252), (12, 221, 165, 1256), (12, 225, 166, 1261), (12, 229, 167, 1265), (12, 233, 168, 1269), (10, 348, 169, 1273), (12, 238, 170, 1277), (10, 352, 171, 1281), (5, 22, 81, 1285), (12, 242, 172, 1286), (10, 355, 173, 1290), (12, 256, 174, 1294), (12, 260, 175, 1298), (12, 7, 176, 1306), (12, 18, 177, 1373), (12, 253, 178, 1510), (12, 23, 179, 1514), (12, 27, 180, 1518), (11, 161, 181, 1522), (11, 140, 182, 1526), (11, 164, 183, 1529), (11, 112, 184, 1533), (11, 68, 185, 1537), (11, 84, 186, 1541), (11, 88, 187, 1544), (11, 167, 188, 1547), (11, 108, 189, 1552), (11, 98, 26, 1556), (11, 104, 28, 1557), (11, 183, 190, 1558), (11, 118, 191, 1562), (11, 207, 192, 1567), (11, 154, 193, 1571), (11, 115, 194, 1575), (11, 158, 195, 1579), (11, 148, 196, 1583), (11, 151, 197, 1587), (11, 186, 198, 1594), (11, 190, 199, 1598), (11, 215, 200, 1602), (11, 134, 201, 1606), (11, 137, 202, 1614), (11, 193, 203, 1623), (11, 196, 204, 1629), (11, 233, 205, 1633), (11, 144, 206, 1637), (11, 199, 207, 1642), (11, 202, 208, 1646), (11, 238, 209, 1650), (11, 170, 210, 1654), (12, 32, 211, 1657), (12, 36, 212, 1661), (12, 41, 213, 1665), (11, 285, 214, 1669), (12, 45, 215, 1673), (11, 288, 216, 1677), (12, 49, 217, 1681), (12, 53, 218, 1685), (11, 291, 219, 1689), (11, 278, 220, 1693), (11, 249, 221, 1697), (11, 245, 222, 1701), (11, 253, 223, 1704), (12, 57, 224, 1708), (11, 271, 225, 1712), (12, 61, 226, 1716), (11, 294, 227, 1720), (11, 281, 228, 1724), (11, 260, 229, 1728), (11, 264, 230, 1732), (11, 274, 231, 1736), (12, 65, 232, 1740), (12, 69, 233, 1744), (12, 73, 234, 1748), (11, 241, 235, 1752), (11, 297, 236, 1756), (12, 77, 237, 1760), (12, 81, 238, 1764), (11, 300, 239, 1768), (12, 85, 240, 1772), (12, 89, 241, 1776), (12, 93, 242, 1780), (12, 97, 243, 1784), (11, 304, 244, 1788), (12, 101, 245, 1792), (11, 307, 246, 1796), (12, 105, 247, 1800), (12, 109, 248, 1804), (12, 113, 249, 1808), (11, 326, 250, 1812), (12, 117, 251, 1816), (12, 121, 252, 1820), (12, 125, 253, 1824), (12, 129, 254, 1828), (12, 133, 255, 1832), (11, 336, 256, 1836), (11, 339, 257, 1840), (11, 330, 258, 1844), (11, 333, 259, 1847), (12, 137, 260, 1851), (12, 141, 261, 1855), (11, 345, 262, 1859), (12, 145, 263, 1863), (12, 149, 264, 1867), (11, 354, 265, 1871), (11, 351, 266, 1875), (12, 153, 267, 1879), (12, 157, 268, 1883), (12, 161, 269, 1887), (11, 369, 270, 1891), (11, 366, 271, 1895), (12, 165, 272, 1899), (12, 169, 273, 1903), (12, 173, 274, 1907), (12, 177, 275, 1911), (11, 375, 276, 1915), (11, 372, 277, 1919), (12, 181, 278, 1923), (12, 185, 279, 1927), (12, 190, 280, 1931), (11, 378, 281, 1935), (12, 194, 282, 1938), (11, 385, 283, 1942), (12, 198, 284, 1946), (12, 203, 285, 1950), (11, 398, 286, 1954), (11, 401, 287, 1958), (12, 208, 288, 1961), (12, 212, 289, 1965), (12, 216, 290, 1971), (11, 407, 291, 1975), (12, 220, 292, 1979), (12, 224, 293, 1983), (12, 228, 294, 1987), (12, 232, 295, 1991), (12, 237, 296, 1995), (11, 410, 297, 1999), (12, 241, 298, 2003), (12, 246, 299, 2007), (12, 252, 300, 2011), (12, 259, 301, 2015), (12, 263, 302, 2019)]
def okl (e : Nat × Nat × Nat × Nat) : Bool := match MT[e.2.2.1]? with
  | some M => decide (lw_tbl[e.2.2.2]? = some (.methodLink (cN e.1) e.2.1 M.2.1))
  | none => false
set_option maxRecDepth 100000 in
theorem lT_ok : lT.all okl = true := by decide +kernel
def nT : List (Nat × Nat × Nat × Nat) := [(10, 9, 1, 134), (10, 18, 2, 192), (1, 11, 3, 198), (1, 20, 4, 237), (2, 19, 4, 295), (2, 24, 3, 296), (10, 32, 6, 324), (3, 17, 3, 329), (3, 24, 4, 331), (10, 39, 7, 359), (0, 17, 3, 364), (0, 24, 4, 366), (4, 17, 3, 390), (5, 17, 3, 409), (10, 60, 4, 419), (10, 67, 3, 421), (10, 74, 10, 424)]
def okn (e : Nat × Nat × Nat × Nat) : Bool := match MT[e.2.2.1]? with
  | some M => decide (lw_tbl[e.2.2.2]? = some (.methodLinkNest (cN e.1) e.2.1 M.2.1 "LeanTable"))
  | none => false
set_option maxRecDepth 100000 in
theorem nT_ok : nT.all okn = true := by decide +kernel
def gT : List (Nat × Nat × Nat × Nat × Nat × Nat) := [(12, 8, 10, 124, 125, 100), (10, 7, 8, 132, 133, 101), (10, 16, 1, 190, 191, 102), (1, 9, 7, 196, 197, 103), (1, 18, 6, 235, 236, 104), (10, 23, 2, 286, 287, 105), (2, 9, 7, 292, 197, 103), (2, 17, 6, 294, 236, 104), (10, 30, 3, 322, 323, 106), (3, 15, 7, 328, 197, 103), (3, 22, 6, 330, 236, 104), (10, 37, 0, 357, 358, 107), (0, 15, 7, 363, 197, 103), (0, 22, 6, 365, 236, 104), (10, 44, 4, 383, 384, 108), (4, 9, 7, 389, 197, 103), (10, 51, 5, 402, 403, 109), (5, 9, 7, 408, 197, 103), (10, 58, 6, 418, 236, 104), (10, 65, 7, 420, 197, 103), (10, 72, 9, 422, 423, 110), (12, 16, 11, 1371, 1372, 111)]
def okg (e : Nat × Nat × Nat × Nat × Nat × Nat) : Bool := match vwCl[e.2.2.1]? with
  | some (C, _, N) => decide (lw_tbl[e.2.2.2.1]? = some (.classLink (cN e.1) e.2.1 C)) && decide (lw_tbl[e.2.2.2.2.1]? = some (.instantiable C N)) && decide (lw_tbl[e.2.2.2.2.2]? = some (.initialized C))
  | none => false
theorem gT_ok : gT.all okg = true := by decide +kernel
def kT : List (Nat × Nat × Int32 × Nat) := [(10, 323, 65536, 1235), (0, 72, 65537, 1240), (11, 405, 65536, 1969), (11, 406, 65537, 1970)]
theorem kT_ok : kT.all (fun e => decide (lw_tbl[e.2.2.2]? = some (.constant (cN e.1) e.2.1 e.2.2.1))) = true := by decide +kernel
def kL : List (Nat × Nat × Int64 × Nat) := [(10, 303, -1, 1205), (0, 39, 100, 1213)]
theorem kL_ok : kL.all (fun e => decide (lw_tbl[e.2.2.2]? = some (.constantLong (cN e.1) e.2.1 e.2.2.1))) = true := by decide +kernel
def sTx : List String := ["table", "person", "name", "fast", "unsure", "heard", "bowl", "starve", "flinch", "plain", "poet", "child", "hunge\x72", "need", "from", "worth", "day"]
def sLen : List Nat := [5, 6, 4, 4, 6, 5, 4, 6, 6, 5, 4, 5, 6, 4, 4, 5, 3]
def sByt : List (List Int32) := [[116, 97, 98, 108, 101], [112, 101, 114, 115, 111, 110], [110, 97, 109, 101], [102, 97, 115, 116], [117, 110, 115, 117, 114, 101], [104, 101, 97, 114, 100], [98, 111, 119, 108], [115, 116, 97, 114, 118, 101], [102, 108, 105, 110, 99, 104], [112, 108, 97, 105, 110], [112, 111, 101, 116], [99, 104, 105, 108, 100], [104, 117, 110, 103, 101, 114], [110, 101, 101, 100], [102, 114, 111, 109], [119, 111, 114, 116, 104], [100, 97, 121]]
def sT : List (Nat × Nat × Nat × Nat) := [(8, 223, 0, 634), (8, 225, 1, 687), (8, 227, 2, 688), (8, 229, 3, 689), (8, 231, 4, 690), (8, 232, 5, 691), (8, 121, 6, 703), (8, 132, 7, 712), (8, 136, 8, 713), (8, 217, 9, 734), (8, 219, 10, 735), (8, 221, 11, 736), (8, 150, 12, 737), (8, 154, 13, 738), (8, 158, 14, 743), (8, 162, 15, 748), (8, 170, 16, 757), (11, 122, 0, 1551), (11, 205, 6, 1566), (11, 211, 7, 1591), (11, 213, 8, 1592), (11, 124, 1, 1593), (11, 126, 2, 1610), (11, 128, 3, 1611), (11, 130, 4, 1612), (11, 132, 5, 1613), (11, 219, 9, 1618), (11, 221, 10, 1619), (11, 223, 11, 1620), (11, 225, 12, 1621), (11, 227, 13, 1622), (11, 229, 14, 1627), (11, 231, 15, 1628), (11, 236, 16, 1641)]
theorem sT_ok : sT.all (fun e => decide (lw_tbl[e.2.2.2]? = some (.stringRef (cN e.1) e.2.1 (sTx.getD e.2.2.1 "")))) = true := by decide +kernel
theorem uX0 : GoodIn lw_tbl (u_ws RX0 TX0 4) := goodIn_r _ [373, 375, 377, 379] (by decide +kernel) (by decide +kernel)
theorem uX1 : GoodIn lw_tbl (u_ws RX1 TX1 6) := goodIn_r _ [273, 275, 277, 279, 281, 283] (by decide +kernel) (by decide +kernel)
theorem uX2 : GoodIn lw_tbl (u_ws RX2 TX2 7) := goodIn_r _ [307, 309, 311, 313, 315, 317, 319] (by decide +kernel) (by decide +kernel)
theorem uX3 : GoodIn lw_tbl (u_ws RX3 TX3 7) := goodIn_r _ [342, 344, 346, 348, 350, 352, 354] (by decide +kernel) (by decide +kernel)
theorem uX4 : GoodIn lw_tbl (u_ws RX4 TX4 3) := goodIn_r _ [395, 397, 399] (by decide +kernel) (by decide +kernel)
theorem uX5 : GoodIn lw_tbl (u_ws RX5 TX5 2) := goodIn_r _ [413, 415] (by decide +kernel) (by decide +kernel)
theorem uX6 : GoodIn lw_tbl (u_ws RX6 TX6 4) := goodIn_r _ [252, 254, 256, 258] (by decide +kernel) (by decide +kernel)
theorem uX7 : GoodIn lw_tbl (u_ws RX7 TX7 7) := goodIn_r _ [220, 222, 224, 226, 228, 230, 232] (by decide +kernel) (by decide +kernel)
theorem uX8 : GoodIn lw_tbl (u_ws RX8 TX8 15) := goodIn_r _ [156, 158, 160, 162, 164, 166, 168, 170, 172, 174, 176, 178, 180, 182, 184] (by decide +kernel) (by decide +kernel)
theorem uX9 : GoodIn lw_tbl (u_ws RX9 TX9 19) := goodIn_r _ [498, 500, 502, 504, 506, 508, 510, 512, 514, 516, 518, 520, 522, 524, 526, 528, 530, 532, 534] (by decide +kernel) (by decide +kernel)
theorem uX10 : GoodIn lw_tbl (u_ws RX10 TX10 13) := goodIn_r _ [550, 552, 554, 556, 558, 560, 562, 564, 566, 568, 570, 572, 574] (by decide +kernel) (by decide +kernel)
theorem uX11 : GoodIn lw_tbl (u_ws RX11 TX11 44) := goodIn_r _ [1421, 1423, 1425, 1427, 1429, 1431, 1433, 1435, 1437, 1439, 1441, 1443, 1445, 1447, 1449, 1451, 1453, 1455, 1457, 1459, 1461, 1463, 1465, 1467, 1469, 1471, 1473, 1475, 1477, 1479, 1481, 1483, 1485, 1487, 1489, 1491, 1493, 1495, 1497, 1499, 1501, 1503, 1505, 1507] (by decide +kernel) (by decide +kernel)
def tyC (ci : Nat) : Nat → FieldType := match ci with
  | 0 => tyX0
  | 1 => tyX1
  | 2 => tyX2
  | 3 => tyX3
  | 4 => tyX4
  | 5 => tyX5
  | 6 => tyX6
  | 7 => tyX7
  | 8 => tyX8
  | 9 => tyX9
  | 10 => tyX10
  | 11 => tyX11
  | _ => tyX0
def gtbl : List Cond := lw_tbl.filter goodWord
theorem gt_of {i : Nat} {w : Cond} (h : lw_tbl[i]? = some w) (g : goodWord w = true) : w ∈ gtbl := List.mem_filter.mpr ⟨List.mem_of_getElem? h, g⟩
theorem gt_in {w : Cond} (h : w ∈ gtbl) : w ∈ lw_tbl := (List.mem_filter.mp h).1
theorem gt_good {w : Cond} (h : w ∈ gtbl) : goodWord w = true := (List.mem_filter.mp h).2
theorem gt_u {ws : List Cond} (h : GoodIn lw_tbl ws) (hg : ws.all goodWord = true) : ∀ w ∈ ws, w ∈ gtbl := fun w hw => List.mem_filter.mpr ⟨(h w hw).1, List.all_eq_true.mp hg w hw⟩
theorem vX0 : ∀ w ∈ u_ws RX0 TX0 4, w ∈ gtbl := gt_u uX0 (by decide +kernel)
theorem vX1 : ∀ w ∈ u_ws RX1 TX1 6, w ∈ gtbl := gt_u uX1 (by decide +kernel)
theorem vX2 : ∀ w ∈ u_ws RX2 TX2 7, w ∈ gtbl := gt_u uX2 (by decide +kernel)
theorem vX3 : ∀ w ∈ u_ws RX3 TX3 7, w ∈ gtbl := gt_u uX3 (by decide +kernel)
theorem vX4 : ∀ w ∈ u_ws RX4 TX4 3, w ∈ gtbl := gt_u uX4 (by decide +kernel)
theorem vX5 : ∀ w ∈ u_ws RX5 TX5 2, w ∈ gtbl := gt_u uX5 (by decide +kernel)
theorem vX6 : ∀ w ∈ u_ws RX6 TX6 4, w ∈ gtbl := gt_u uX6 (by decide +kernel)
theorem vX7 : ∀ w ∈ u_ws RX7 TX7 7, w ∈ gtbl := gt_u uX7 (by decide +kernel)
theorem vX8 : ∀ w ∈ u_ws RX8 TX8 15, w ∈ gtbl := gt_u uX8 (by decide +kernel)
theorem vX9 : ∀ w ∈ u_ws RX9 TX9 19, w ∈ gtbl := gt_u uX9 (by decide +kernel)
theorem vX10 : ∀ w ∈ u_ws RX10 TX10 13, w ∈ gtbl := gt_u uX10 (by decide +kernel)
theorem vX11 : ∀ w ∈ u_ws RX11 TX11 44, w ∈ gtbl := gt_u uX11 (by decide +kernel)
theorem cls_ok (ci : Nat) (q : vw_C) (h : vwCl[ci]? = some q) : (∀ w ∈ u_ws q.1 q.2.1 q.2.2, w ∈ gtbl) ∧ (∀ k, k < q.2.2 → parseFieldDescriptor (q.2.1 k).2.2.1 = some (tyC ci k)) ∧ (∀ a, a < q.2.2 → ∀ b, b < q.2.2 → a ≠ b → (q.2.1 a).2.1 ≠ (q.2.1 b).2.1) ∧ q.1 = cN ci := by
  match ci, h with
  | 0, h => cases h; exact ⟨vX0, tyX0_ok, nmX0, rfl⟩
  | 1, h => cases h; exact ⟨vX1, tyX1_ok, nmX1, rfl⟩
  | 2, h => cases h; exact ⟨vX2, tyX2_ok, nmX2, rfl⟩
  | 3, h => cases h; exact ⟨vX3, tyX3_ok, nmX3, rfl⟩
  | 4, h => cases h; exact ⟨vX4, tyX4_ok, nmX4, rfl⟩
  | 5, h => cases h; exact ⟨vX5, tyX5_ok, nmX5, rfl⟩
  | 6, h => cases h; exact ⟨vX6, tyX6_ok, nmX6, rfl⟩
  | 7, h => cases h; exact ⟨vX7, tyX7_ok, nmX7, rfl⟩
  | 8, h => cases h; exact ⟨vX8, tyX8_ok, nmX8, rfl⟩
  | 9, h => cases h; exact ⟨vX9, tyX9_ok, nmX9, rfl⟩
  | 10, h => cases h; exact ⟨vX10, tyX10_ok, nmX10, rfl⟩
  | 11, h => cases h; exact ⟨vX11, tyX11_ok, nmX11, rfl⟩
  | n + 12, h => simp at h
theorem lw_seg_0 {w : Cond} (h : w ∈ tables_1_1) : w ∈ lw_tbl := List.mem_append_right _ (List.mem_append_left _ h)
theorem lw_seg_1 {w : Cond} (h : w ∈ tables_1_2) : w ∈ lw_tbl := List.mem_append_right _ (List.mem_append_right _ (List.mem_append_left _ h))
theorem lw_seg_2 {w : Cond} (h : w ∈ tables_1_3) : w ∈ lw_tbl := List.mem_append_right _ (List.mem_append_right _ (List.mem_append_right _ (List.mem_append_left _ h)))
theorem lw_seg_3 {w : Cond} (h : w ∈ tables_1_4) : w ∈ lw_tbl := List.mem_append_right _ (List.mem_append_right _ (List.mem_append_right _ (List.mem_append_right _ (List.mem_append_left _ h))))
theorem lw_seg_4 {w : Cond} (h : w ∈ tables_1_5) : w ∈ lw_tbl := List.mem_append_right _ (List.mem_append_right _ (List.mem_append_right _ (List.mem_append_right _ (List.mem_append_right _ (List.mem_append_left _ h)))))
theorem lw_seg_5 {w : Cond} (h : w ∈ tables_1_6) : w ∈ lw_tbl := List.mem_append_right _ (List.mem_append_right _ (List.mem_append_right _ (List.mem_append_right _ (List.mem_append_right _ (List.mem_append_right _ (List.mem_append_left _ h))))))
theorem lw_seg_6 {w : Cond} (h : w ∈ tables_1_7) : w ∈ lw_tbl := List.mem_append_right _ (List.mem_append_right _ (List.mem_append_right _ (List.mem_append_right _ (List.mem_append_right _ (List.mem_append_right _ (List.mem_append_right _ (List.mem_append_left _ h)))))))
theorem lw_seg_7 {w : Cond} (h : w ∈ tables_1_8) : w ∈ lw_tbl := List.mem_append_right _ (List.mem_append_right _ (List.mem_append_right _ (List.mem_append_right _ (List.mem_append_right _ (List.mem_append_right _ (List.mem_append_right _ (List.mem_append_right _ (List.mem_append_left _ h))))))))
theorem lw_seg_8 {w : Cond} (h : w ∈ tables_1_9) : w ∈ lw_tbl := List.mem_append_right _ (List.mem_append_right _ (List.mem_append_right _ (List.mem_append_right _ (List.mem_append_right _ (List.mem_append_right _ (List.mem_append_right _ (List.mem_append_right _ (List.mem_append_right _ (h)))))))))
theorem cw_seg {l : List Mt} {ps : List Nat} {t : List Cond} (h : l.map cw = ps.filterMap (fun i => t[i]?)) (ht : ∀ w ∈ t, w ∈ lw_tbl) : ∀ M ∈ l, cw M ∈ gtbl := by
  intro M hM
  have h1 : cw M ∈ l.map cw := List.mem_map.mpr ⟨M, hM, rfl⟩
  rw [h] at h1
  obtain ⟨i, -, hi⟩ := List.mem_filterMap.mp h1
  exact List.mem_filter.mpr ⟨ht _ (List.mem_of_getElem? hi), rfl⟩
theorem cw_ok : ∀ M ∈ MT, cw M ∈ gtbl := by
  unfold MT
  exact List.forall_mem_append.mpr ⟨cw_seg MT_0_in (fun _ h => lw_seg_0 h), List.forall_mem_append.mpr ⟨cw_seg MT_1_in (fun _ h => lw_seg_1 h), List.forall_mem_append.mpr ⟨cw_seg MT_2_in (fun _ h => lw_seg_2 h), List.forall_mem_append.mpr ⟨cw_seg MT_3_in (fun _ h => lw_seg_3 h), List.forall_mem_append.mpr ⟨cw_seg MT_4_in (fun _ h => lw_seg_4 h), List.forall_mem_append.mpr ⟨cw_seg MT_5_in (fun _ h => lw_seg_5 h), List.forall_mem_append.mpr ⟨cw_seg MT_6_in (fun _ h => lw_seg_6 h), List.forall_mem_append.mpr ⟨cw_seg MT_7_in (fun _ h => lw_seg_7 h), cw_seg MT_8_in (fun _ h => lw_seg_8 h)⟩⟩⟩⟩⟩⟩⟩⟩
