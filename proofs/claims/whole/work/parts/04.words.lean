theorem goodIn_r {big : List Cond} (ws : List Cond) (ps : List Nat) (hp : ws = ps.filterMap (fun i => big[i]?)) (h : ws.all goodWord = true) : GoodIn big ws := by
  intro w hw
  have h1 := List.all_eq_true.mp h w hw
  rw [hp] at hw
  obtain ⟨i, -, hi⟩ := List.mem_filterMap.mp hw
  have hm : w ∈ big := by first | exact List.mem_of_getElem? hi | exact List.getElem?_mem hi
  exact ⟨hm, good_of_word h1⟩
def cN (o : Nat) : String := match o with
  | 0 => RX0
  | 1 => RX1
  | 2 => RX2
  | 3 => RX3
  | 4 => RX4
  | 5 => RX5
  | 6 => RX6
  | 7 => RX7
  | 8 => RX8
  | 9 => RX9
  | 10 => RX10
  | 11 => RX11
  | 12 => RL
  | _ => ""
abbrev Mt : Type := Nat × MethodName × ByteArray × Nat × Option FieldType
def mX10_init : Mt := (10, yX10_init, cX10_init, 1, none)
def mX8_init : Mt := (8, yX8_init, cX8_init, 1, none)
def mX1_init : Mt := (1, yX1_init, cX1_init, 1, none)
def mX7_init : Mt := (7, yX7_init, cX7_init, 1, none)
def mX6_init : Mt := (6, yX6_init, cX6_init, 1, none)
def mX2_init : Mt := (2, yX2_init, cX2_init, 2, none)
def mX3_init : Mt := (3, yX3_init, cX3_init, 1, none)
def mX0_init : Mt := (0, yX0_init, cX0_init, 1, none)
def mX4_init : Mt := (4, yX4_init, cX4_init, 2, none)
def mX5_init : Mt := (5, yX5_init, cX5_init, 2, none)
def mX9_init : Mt := (9, yX9_init, cX9_init, 1, none)
def mX10_feed : Mt := (10, yX10_feed, cX10_feed, 6, (some .int))
def mX8_hasRoom : Mt := (8, yX8_hasRoom, cX8_hasRoom, 2, (some .boolean))
def mX8_append : Mt := (8, yX8_append, cX8_append, 3, none)
def mX10_table : Mt := (10, yX10_table, cX10_table, 4, (some .int))
def mX10_refuse : Mt := (10, yX10_refuse, cX10_refuse, 2, (some .int))
def mX8_read : Mt := (8, yX8_read, cX8_read, 5, (some .boolean))
def mX9_clear : Mt := (9, yX9_clear, cX9_clear, 1, none)
def mX8_step : Mt := (8, yX8_step, cX8_step, 1, none)
def mX8_isLetter : Mt := (8, yX8_isLetter, cX8_isLetter, 1, (some .boolean))
def mX8_takeWord : Mt := (8, yX8_takeWord, cX8_takeWord, 1, none)
def mX8_isDigit : Mt := (8, yX8_isDigit, cX8_isDigit, 1, (some .boolean))
def mX8_takeWhole : Mt := (8, yX8_takeWhole, cX8_takeWhole, 2, none)
def mX8_readLine : Mt := (8, yX8_readLine, cX8_readLine, 3, (some .boolean))
def mX8_lineSort : Mt := (8, yX8_lineSort, cX8_lineSort, 1, (some .int))
def mX8_isWord : Mt := (8, yX8_isWord, cX8_isWord, 3, (some .boolean))
def mJ0_length_8abf5 : Mt := (20, yJ0_length_8abf5, cJ0_length_8abf5, 1, (some .int))
def mJ0_coder_7d493 : Mt := (20, yJ0_coder_7d493, cJ0_coder_7d493, 1, (some .byte))
def mJ0_charAt_5068e : Mt := (20, yJ0_charAt_5068e, cJ0_charAt_5068e, 2, (some .char))
def mJ0_isLatin1_aae02 : Mt := (20, yJ0_isLatin1_aae02, cJ0_isLatin1_aae02, 1, (some .boolean))
def mJ1_charAt_3b067 : Mt := (20, yJ1_charAt_3b067, cJ1_charAt_3b067, 2, (some .char))
def mJ0_checkIndex_df160 : Mt := (20, yJ0_checkIndex_df160, cJ0_checkIndex_df160, 2, none)
def mJ3_checkIndex_8e157 : Mt := (20, yJ3_checkIndex_8e157, cJ3_checkIndex_8e157, 3, (some .int))
def mJ2_charAt_3b067 : Mt := (20, yJ2_charAt_3b067, cJ2_charAt_3b067, 2, (some .char))
def mJ2_checkIndex_2214a : Mt := (20, yJ2_checkIndex_2214a, cJ2_checkIndex_2214a, 2, none)
def mJ2_length_9d52b : Mt := (20, yJ2_length_9d52b, cJ2_length_9d52b, 1, (some .int))
def mJ2_getChar_3b067 : Mt := (20, yJ2_getChar_3b067, cJ2_getChar_3b067, 2, (some .char))
def mX8_fail : Mt := (8, yX8_fail, cX8_fail, 2, (some .boolean))
def mX8_isFull : Mt := (8, yX8_isFull, cX8_isFull, 2, (some .boolean))
def mX8_readTable : Mt := (8, yX8_readTable, cX8_readTable, 2, (some .boolean))
def mX8_findsWhole : Mt := (8, yX8_findsWhole, cX8_findsWhole, 4, (some .boolean))
def mX8_isWholeWithin : Mt := (8, yX8_isWholeWithin, cX8_isWholeWithin, 3, (some .boolean))
def mX8_readPerson : Mt := (8, yX8_readPerson, cX8_readPerson, 4, (some .boolean))
def mX8_findsNewName : Mt := (8, yX8_findsNewName, cX8_findsNewName, 3, (some .boolean))
def mX8_wordHere : Mt := (8, yX8_wordHere, cX8_wordHere, 2, (some .int))
def mX8_isSameWord : Mt := (8, yX8_isSameWord, cX8_isSameWord, 4, (some .boolean))
def mX8_kindHere : Mt := (8, yX8_kindHere, cX8_kindHere, 1, (some .int))
def mX8_readName : Mt := (8, yX8_readName, cX8_readName, 3, (some .boolean))
def mX9_hasFrom : Mt := (9, yX9_hasFrom, cX9_hasFrom, 3, (some .boolean))
def mX8_readFast : Mt := (8, yX8_readFast, cX8_readFast, 4, (some .boolean))
def mX8_toldNameHere : Mt := (8, yX8_toldNameHere, cX8_toldNameHere, 3, (some .int))
def mX9_fastingOn : Mt := (9, yX9_fastingOn, cX9_fastingOn, 4, (some .int))
def mX8_readUnsure : Mt := (8, yX8_readUnsure, cX8_readUnsure, 4, (some .boolean))
def mX9_isUnsure : Mt := (9, yX9_isUnsure, cX9_isUnsure, 3, (some .boolean))
def mX8_readHeard : Mt := (8, yX8_readHeard, cX8_readHeard, 4, (some .boolean))
def mX9_isHeardOn : Mt := (9, yX9_isHeardOn, cX9_isHeardOn, 3, (some .boolean))
def mX7_begin : Mt := (7, yX7_begin, cX7_begin, 4, none)
def mJ7_fill_53178 : Mt := (20, yJ7_fill_53178, cJ7_fill_53178, 4, none)
def mX4_forget : Mt := (4, yX4_forget, cX4_forget, 1, none)
def mX5_forget : Mt := (5, yX5_forget, cX5_forget, 1, none)
def mX10_answer : Mt := (10, yX10_answer, cX10_answer, 2, (some .int))
def mX10_fault : Mt := (10, yX10_fault, cX10_fault, 1, (some .int))
def mX10_where : Mt := (10, yX10_where, cX10_where, 1, (some .int))
def mX10_person : Mt := (10, yX10_person, cX10_person, 3, (some .int))
def mX10_lacksPerson : Mt := (10, yX10_lacksPerson, cX10_lacksPerson, 2, (some .boolean))
def mX10_name : Mt := (10, yX10_name, cX10_name, 3, (some .int))
def mX10_lacksName : Mt := (10, yX10_lacksName, cX10_lacksName, 2, (some .boolean))
def mX10_left : Mt := (10, yX10_left, cX10_left, 1, (some .int))
def mX10_lacksTable : Mt := (10, yX10_lacksTable, cX10_lacksTable, 1, (some .boolean))
def mX10_seen : Mt := (10, yX10_seen, cX10_seen, 2, (some .int))
def mX7_isDead : Mt := (7, yX7_isDead, cX7_isDead, 2, (some .boolean))
def mX7_seenHunger : Mt := (7, yX7_seenHunger, cX7_seenHunger, 4, (some .int))
def mX10_calls : Mt := (10, yX10_calls, cX10_calls, 2, (some .int))
def mX9_nameSeen : Mt := (9, yX9_nameSeen, cX9_nameSeen, 4, (some .int))
def mX10_namer : Mt := (10, yX10_namer, cX10_namer, 1, (some .int))
def mX7_whoNames : Mt := (7, yX7_whoNames, cX7_whoNames, 7, (some .int))
def mX10_dish : Mt := (10, yX10_dish, cX10_dish, 1, (some .int))
def mX7_nextDish : Mt := (7, yX7_nextDish, cX7_nextDish, 4, (some .int))
def mX10_share : Mt := (10, yX10_share, cX10_share, 2, (some .int))
def mX1_walk : Mt := (1, yX1_walk, cX1_walk, 5, none)
def mX1_start : Mt := (1, yX1_start, cX1_start, 2, none)
def mX7_copy : Mt := (7, yX7_copy, cX7_copy, 2, none)
def mX1_pass : Mt := (1, yX1_pass, cX1_pass, 4, none)
def mX6_hold : Mt := (6, yX6_hold, cX6_hold, 8, none)
def mX7_fastingNext : Mt := (7, yX7_fastingNext, cX7_fastingNext, 2, (some .int))
def mX7_grow : Mt := (7, yX7_grow, cX7_grow, 3, none)
def mX7_living : Mt := (7, yX7_living, cX7_living, 2, (some .int))
def mX6_seat : Mt := (6, yX6_seat, cX6_seat, 7, (some .int))
def mX6_serve : Mt := (6, yX6_serve, cX6_serve, 8, none)
def mX7_worthOf : Mt := (7, yX7_worthOf, cX7_worthOf, 2, (some .int))
def mX7_close : Mt := (7, yX7_close, cX7_close, 4, none)
def mX10_nameWith : Mt := (10, yX10_nameWith, cX10_nameWith, 2, (some .int))
def mX10_isRefused : Mt := (10, yX10_isRefused, cX10_isRefused, 5, (some .boolean))
def mX10_isOutside : Mt := (10, yX10_isOutside, cX10_isOutside, 3, (some .boolean))
def mX10_dishWithGuest : Mt := (10, yX10_dishWithGuest, cX10_dishWithGuest, 3, (some .int))
def mX10_greatestSeen : Mt := (10, yX10_greatestSeen, cX10_greatestSeen, 2, (some .int))
def mX10_guestFor : Mt := (10, yX10_guestFor, cX10_guestFor, 2, (some .int))
def mX10_namerIn : Mt := (10, yX10_namerIn, cX10_namerIn, 2, (some .int))
def mX10_dishIn : Mt := (10, yX10_dishIn, cX10_dishIn, 2, (some .int))
def mX10_hungerIn : Mt := (10, yX10_hungerIn, cX10_hungerIn, 3, (some .int))
def mX10_leftIn : Mt := (10, yX10_leftIn, cX10_leftIn, 2, (some .int))
def mX10_livingIn : Mt := (10, yX10_livingIn, cX10_livingIn, 2, (some .int))
def mX10_hungriestIn : Mt := (10, yX10_hungriestIn, cX10_hungriestIn, 2, (some .int))
def mX7_hungriest : Mt := (7, yX7_hungriest, cX7_hungriest, 4, (some .int))
def mX10_unevenIn : Mt := (10, yX10_unevenIn, cX10_unevenIn, 2, (some .int))
def mX7_unevenness : Mt := (7, yX7_unevenness, cX7_unevenness, 5, (some .int))
def mX10_deadIn : Mt := (10, yX10_deadIn, cX10_deadIn, 3, (some .int))
def mX10_eats : Mt := (10, yX10_eats, cX10_eats, 3, (some .int))
def mX10_says : Mt := (10, yX10_says, cX10_says, 3, (some .int))
def mX10_firstDish : Mt := (10, yX10_firstDish, cX10_firstDish, 3, (some .int))
def mX10_named : Mt := (10, yX10_named, cX10_named, 2, (some .int))
def mX10_worthIn : Mt := (10, yX10_worthIn, cX10_worthIn, 2, (some .int))
def mX10_fastsFor : Mt := (10, yX10_fastsFor, cX10_fastsFor, 3, (some .int))
def mX2_seekName : Mt := (2, yX2_seekName, cX2_seekName, 5, none)
def mX2_seekOn : Mt := (2, yX2_seekOn, cX2_seekOn, 9, none)
def mX7_freeToFast : Mt := (7, yX7_freeToFast, cX7_freeToFast, 2, (some .int))
def mX7_endangered : Mt := (7, yX7_endangered, cX7_endangered, 4, (some .int))
def mX2_keepsAll : Mt := (2, yX2_keepsAll, cX2_keepsAll, 4, (some .boolean))
def mX2_isBetter : Mt := (2, yX2_isBetter, cX2_isBetter, 3, (some .boolean))
def mJ6_bitCount_0f7a4 : Mt := (20, yJ6_bitCount_0f7a4, cJ6_bitCount_0f7a4, 1, (some .int))
def mX2_isFound : Mt := (2, yX2_isFound, cX2_isFound, 1, (some .boolean))
def mX10_fastsAt : Mt := (10, yX10_fastsAt, cX10_fastsAt, 3, (some .int))
def mX10_bestFast : Mt := (10, yX10_bestFast, cX10_bestFast, 1, (some .int))
def mX2_seekWorth : Mt := (2, yX2_seekWorth, cX2_seekWorth, 6, none)
def mX2_weighFast : Mt := (2, yX2_weighFast, cX2_weighFast, 3, none)
def mX10_bestWorth : Mt := (10, yX10_bestWorth, cX10_bestWorth, 1, (some .int))
def mX10_tables : Mt := (10, yX10_tables, cX10_tables, 1, (some .int))
def mX10_bestFirstTable : Mt := (10, yX10_bestFirstTable, cX10_bestFirstTable, 7, (some .int))
def mX10_worthOfTables : Mt := (10, yX10_worthOfTables, cX10_worthOfTables, 3, (some .int))
def mX10_worthNamedBy : Mt := (10, yX10_worthNamedBy, cX10_worthNamedBy, 3, (some .int))
def mX7_mostSeen : Mt := (7, yX7_mostSeen, cX7_mostSeen, 6, (some .int))
def mX10_tablesWorth : Mt := (10, yX10_tablesWorth, cX10_tablesWorth, 1, (some .int))
def mX10_bowlFor : Mt := (10, yX10_bowlFor, cX10_bowlFor, 3, (some .int))
def mX10_bowlKeepsAll : Mt := (10, yX10_bowlKeepsAll, cX10_bowlKeepsAll, 4, (some .boolean))
def mX10_fits : Mt := (10, yX10_fits, cX10_fits, 1, (some .int))
def mX3_weigh : Mt := (3, yX3_weigh, cX3_weigh, 3, none)
def mX3_firstUnlike : Mt := (3, yX3_firstUnlike, cX3_firstUnlike, 5, (some .int))
def mX9_lastHeardDay : Mt := (9, yX9_lastHeardDay, cX9_lastHeardDay, 3, (some .int))
def mX10_fitAt : Mt := (10, yX10_fitAt, cX10_fitAt, 3, (some .int))
def mX3_setAt : Mt := (3, yX3_setAt, cX3_setAt, 4, (some .int))
def mX3_isFitting : Mt := (3, yX3_isFitting, cX3_isFitting, 2, (some .boolean))
def mX10_could : Mt := (10, yX10_could, cX10_could, 1, (some .int))
def mX10_surely : Mt := (10, yX10_surely, cX10_surely, 1, (some .int))
def mX10_ask : Mt := (10, yX10_ask, cX10_ask, 1, (some .int))
def mX3_whomToAsk : Mt := (3, yX3_whomToAsk, cX3_whomToAsk, 4, (some .int))
def mX3_leftAtMost : Mt := (3, yX3_leftAtMost, cX3_leftAtMost, 4, (some .int))
def mX10_askLeaves : Mt := (10, yX10_askLeaves, cX10_askLeaves, 2, (some .int))
def mX10_judge : Mt := (10, yX10_judge, cX10_judge, 1, (some .int))
def mX10_takes : Mt := (10, yX10_takes, cX10_takes, 5, (some .int))
def mX10_gain : Mt := (10, yX10_gain, cX10_gain, 3, (some .int))
def mX10_rests : Mt := (10, yX10_rests, cX10_rests, 4, (some .int))
def mX10_isRest : Mt := (10, yX10_isRest, cX10_isRest, 3, (some .boolean))
def mX10_rest : Mt := (10, yX10_rest, cX10_rest, 3, (some .int))
def mX10_odds : Mt := (10, yX10_odds, cX10_odds, 4, (some .long))
def mX0_weigh : Mt := (0, yX0_weigh, cX0_weigh, 5, none)
def mJ7_fill_d0a16 : Mt := (20, yJ7_fill_d0a16, cJ7_fill_d0a16, 5, none)
def mX0_weighWay : Mt := (0, yX0_weighWay, cX0_weighWay, 9, none)
def mX0_lowest : Mt := (0, yX0_lowest, cX0_lowest, 12, (some .long))
def mX10_mean : Mt := (10, yX10_mean, cX10_mean, 3, (some .long))
def mX0_weightOfWorths : Mt := (0, yX0_weightOfWorths, cX0_weightOfWorths, 6, (some .long))
def mX10_drawn : Mt := (10, yX10_drawn, cX10_drawn, 3, (some .int))
def mX0_dishByDraws : Mt := (0, yX0_dishByDraws, cX0_dishByDraws, 7, (some .int))
def mX10_day : Mt := (10, yX10_day, cX10_day, 1, (some .int))
def mX4_keep : Mt := (4, yX4_keep, cX4_keep, 2, none)
def mX10_bid : Mt := (10, yX10_bid, cX10_bid, 2, (some .int))
def mX10_give : Mt := (10, yX10_give, cX10_give, 3, (some .int))
def mX10_pour : Mt := (10, yX10_pour, cX10_pour, 2, (some .int))
def mX10_value : Mt := (10, yX10_value, cX10_value, 4, (some .int))
def mX10_undo : Mt := (10, yX10_undo, cX10_undo, 2, (some .boolean))
def mX4_takeBack : Mt := (4, yX4_takeBack, cX4_takeBack, 2, (some .boolean))
def mX10_image : Mt := (10, yX10_image, cX10_image, 2, (some .int))
def mX5_keep : Mt := (5, yX5_keep, cX5_keep, 2, (some .int))
def mX10_back : Mt := (10, yX10_back, cX10_back, 3, (some .boolean))
def mX5_show : Mt := (5, yX5_show, cX5_show, 3, (some .boolean))
def mX10_size : Mt := (10, yX10_size, cX10_size, 2, (some .int))
def mX10_trouble : Mt := (10, yX10_trouble, cX10_trouble, 1, (some .int))
def mX10_led : Mt := (10, yX10_led, cX10_led, 4, (some .int))
def mX11_init : Mt := (11, yX11_init, cX11_init, 1, none)
def mX11_thrown : Mt := (11, yX11_thrown, cX11_thrown, 1, (some .int))
def mX11_feed : Mt := (11, yX11_feed, cX11_feed, 8, (some .int))
def mX11_table : Mt := (11, yX11_table, cX11_table, 4, (some .int))
def mX11_anew : Mt := (11, yX11_anew, cX11_anew, 1, none)
def mX11_in : Mt := (11, yX11_in, cX11_in, 3, (some .boolean))
def mX11_no : Mt := (11, yX11_no, cX11_no, 2, (some .int))
def mX11_next : Mt := (11, yX11_next, cX11_next, 4, none)
def mX11_see : Mt := (11, yX11_see, cX11_see, 2, (some .int))
def mX11_isSmall : Mt := (11, yX11_isSmall, cX11_isSmall, 1, (some .boolean))
def mX11_isDigit : Mt := (11, yX11_isDigit, cX11_isDigit, 1, (some .boolean))
def mX11_readLine : Mt := (11, yX11_readLine, cX11_readLine, 1, none)
def mX11_isWord : Mt := (11, yX11_isWord, cX11_isWord, 4, (some .boolean))
def mX11_tableLine : Mt := (11, yX11_tableLine, cX11_tableLine, 1, none)
def mX11_wrong : Mt := (11, yX11_wrong, cX11_wrong, 3, none)
def mX11_after : Mt := (11, yX11_after, cX11_after, 4, (some .int))
def mX11_must : Mt := (11, yX11_must, cX11_must, 2, none)
def mX11_takesWord : Mt := (11, yX11_takesWord, cX11_takesWord, 2, (some .boolean))
def mX11_number : Mt := (11, yX11_number, cX11_number, 4, (some .int))
def mX11_numberHere : Mt := (11, yX11_numberHere, cX11_numberHere, 3, (some .int))
def mX11_pass : Mt := (11, yX11_pass, cX11_pass, 1, none)
def mX11_begins : Mt := (11, yX11_begins, cX11_begins, 3, (some .boolean))
def mX11_personLine : Mt := (11, yX11_personLine, cX11_personLine, 5, none)
def mX11_newName : Mt := (11, yX11_newName, cX11_newName, 3, none)
def mX11_mustName : Mt := (11, yX11_mustName, cX11_mustName, 1, none)
def mX11_find : Mt := (11, yX11_find, cX11_find, 4, (some .int))
def mX11_nameLine : Mt := (11, yX11_nameLine, cX11_nameLine, 4, none)
def mX11_fastLine : Mt := (11, yX11_fastLine, cX11_fastLine, 5, none)
def mX11_personHere : Mt := (11, yX11_personHere, cX11_personHere, 1, (some .int))
def mX11_namedHere : Mt := (11, yX11_namedHere, cX11_namedHere, 4, (some .int))
def mX11_unsureLine : Mt := (11, yX11_unsureLine, cX11_unsureLine, 4, none)
def mX11_heardLine : Mt := (11, yX11_heardLine, cX11_heardLine, 5, none)
def mX11_dishHere : Mt := (11, yX11_dishHere, cX11_dishHere, 1, (some .int))
def mX11_copy : Mt := (11, yX11_copy, cX11_copy, 6, none)
def mX11_fault : Mt := (11, yX11_fault, cX11_fault, 1, (some .int))
def mX11_where : Mt := (11, yX11_where, cX11_where, 1, (some .int))
def mX11_person : Mt := (11, yX11_person, cX11_person, 3, (some .int))
def mX11_isPerson : Mt := (11, yX11_isPerson, cX11_isPerson, 2, (some .boolean))
def mX11_name : Mt := (11, yX11_name, cX11_name, 3, (some .int))
def mX11_isName : Mt := (11, yX11_isName, cX11_isName, 2, (some .boolean))
def mX11_left : Mt := (11, yX11_left, cX11_left, 1, (some .int))
def mX11_seen : Mt := (11, yX11_seen, cX11_seen, 2, (some .int))
def mX11_dawn : Mt := (11, yX11_dawn, cX11_dawn, 2, none)
def mX11_begin : Mt := (11, yX11_begin, cX11_begin, 1, none)
def mX11_lives : Mt := (11, yX11_lives, cX11_lives, 3, (some .boolean))
def mX11_hasBit : Mt := (11, yX11_hasBit, cX11_hasBit, 2, (some .boolean))
def mX11_seenOf : Mt := (11, yX11_seenOf, cX11_seenOf, 5, (some .int))
def mX11_calls : Mt := (11, yX11_calls, cX11_calls, 2, (some .int))
def mX11_nameAt : Mt := (11, yX11_nameAt, cX11_nameAt, 4, (some .int))
def mX11_namer : Mt := (11, yX11_namer, cX11_namer, 1, (some .int))
def mX11_daysOn : Mt := (11, yX11_daysOn, cX11_daysOn, 3, none)
def mX11_dayOn : Mt := (11, yX11_dayOn, cX11_dayOn, 8, none)
def mX11_fastersOf : Mt := (11, yX11_fastersOf, cX11_fastersOf, 4, (some .int))
def mX11_namerOf : Mt := (11, yX11_namerOf, cX11_namerOf, 5, (some .int))
def mX11_eatOn : Mt := (11, yX11_eatOn, cX11_eatOn, 10, none)
def mX11_dish : Mt := (11, yX11_dish, cX11_dish, 1, (some .int))
def mX11_share : Mt := (11, yX11_share, cX11_share, 2, (some .int))
def mX11_nameWith : Mt := (11, yX11_nameWith, cX11_nameWith, 4, (some .int))
def mX11_why : Mt := (11, yX11_why, cX11_why, 3, (some .int))
def mX11_seenMost : Mt := (11, yX11_seenMost, cX11_seenMost, 2, (some .int))
def mX11_guestFor : Mt := (11, yX11_guestFor, cX11_guestFor, 4, (some .int))
def mX11_namerIn : Mt := (11, yX11_namerIn, cX11_namerIn, 3, (some .int))
def mX11_aheadWhy : Mt := (11, yX11_aheadWhy, cX11_aheadWhy, 4, (some .int))
def mX11_dishIn : Mt := (11, yX11_dishIn, cX11_dishIn, 3, (some .int))
def mX11_hungerIn : Mt := (11, yX11_hungerIn, cX11_hungerIn, 4, (some .int))
def mX11_leftIn : Mt := (11, yX11_leftIn, cX11_leftIn, 3, (some .int))
def mX11_livingIn : Mt := (11, yX11_livingIn, cX11_livingIn, 3, (some .int))
def mX11_everybody : Mt := (11, yX11_everybody, cX11_everybody, 1, (some .int))
def mX11_hungriestIn : Mt := (11, yX11_hungriestIn, cX11_hungriestIn, 3, (some .int))
def mX11_hungriestOf : Mt := (11, yX11_hungriestOf, cX11_hungriestOf, 5, (some .int))
def mX11_unevenIn : Mt := (11, yX11_unevenIn, cX11_unevenIn, 4, (some .int))
def mX11_deadIn : Mt := (11, yX11_deadIn, cX11_deadIn, 3, (some .int))
def mX11_eats : Mt := (11, yX11_eats, cX11_eats, 4, (some .int))
def mX11_within : Mt := (11, yX11_within, cX11_within, 5, none)
def mX11_says : Mt := (11, yX11_says, cX11_says, 4, (some .int))
def mX11_firstDish : Mt := (11, yX11_firstDish, cX11_firstDish, 2, (some .int))
def mX11_named : Mt := (11, yX11_named, cX11_named, 3, (some .int))
def mX11_worthIn : Mt := (11, yX11_worthIn, cX11_worthIn, 3, (some .int))
def mX11_fastsFor : Mt := (11, yX11_fastsFor, cX11_fastsFor, 5, (some .int))
def mX11_fastWhy : Mt := (11, yX11_fastWhy, cX11_fastWhy, 3, (some .int))
def mX11_fastsOf : Mt := (11, yX11_fastsOf, cX11_fastsOf, 6, (some .int))
def mX11_ones : Mt := (11, yX11_ones, cX11_ones, 3, (some .int))
def mX11_mayFast : Mt := (11, yX11_mayFast, cX11_mayFast, 7, (some .boolean))
def mX11_fastsAt : Mt := (11, yX11_fastsAt, cX11_fastsAt, 4, (some .int))
def mX11_bestFast : Mt := (11, yX11_bestFast, cX11_bestFast, 1, (some .int))
def mX11_bestFastOf : Mt := (11, yX11_bestFastOf, cX11_bestFastOf, 4, (some .int))
def mX11_bestWorth : Mt := (11, yX11_bestWorth, cX11_bestWorth, 1, (some .int))
def mX11_tables : Mt := (11, yX11_tables, cX11_tables, 1, (some .int))
def mX11_tablesOf : Mt := (11, yX11_tablesOf, cX11_tablesOf, 6, (some .int))
def mX11_worthOf : Mt := (11, yX11_worthOf, cX11_worthOf, 5, (some .int))
def mX11_tablesWorth : Mt := (11, yX11_tablesWorth, cX11_tablesWorth, 1, (some .int))
def mX11_bowlFor : Mt := (11, yX11_bowlFor, cX11_bowlFor, 6, (some .int))
def mX11_fits : Mt := (11, yX11_fits, cX11_fits, 1, (some .int))
def mX11_seekSets : Mt := (11, yX11_seekSets, cX11_seekSets, 5, (some .int))
def mX11_wrongBy : Mt := (11, yX11_wrongBy, cX11_wrongBy, 5, (some .int))
def mX11_fitAt : Mt := (11, yX11_fitAt, cX11_fitAt, 3, (some .int))
def mX11_could : Mt := (11, yX11_could, cX11_could, 1, (some .int))
def mX11_surely : Mt := (11, yX11_surely, cX11_surely, 1, (some .int))
def mX11_ask : Mt := (11, yX11_ask, cX11_ask, 1, (some .int))
def mX11_askOf : Mt := (11, yX11_askOf, cX11_askOf, 3, (some .int))
def mX11_leavesOf : Mt := (11, yX11_leavesOf, cX11_leavesOf, 2, (some .int))
def mX11_askLeaves : Mt := (11, yX11_askLeaves, cX11_askLeaves, 2, (some .int))
def mX11_judge : Mt := (11, yX11_judge, cX11_judge, 1, (some .int))
def mX11_takes : Mt := (11, yX11_takes, cX11_takes, 6, (some .int))
def mX11_takesOf : Mt := (11, yX11_takesOf, cX11_takesOf, 3, (some .int))
def mX11_rests : Mt := (11, yX11_rests, cX11_rests, 3, (some .int))
def mX11_seekRests : Mt := (11, yX11_seekRests, cX11_seekRests, 6, (some .int))
def mX11_rest : Mt := (11, yX11_rest, cX11_rest, 3, (some .int))
def mX11_odds : Mt := (11, yX11_odds, cX11_odds, 5, (some .long))
def mX11_tryFlinch : Mt := (11, yX11_tryFlinch, cX11_tryFlinch, 7, none)
def mX11_lowest : Mt := (11, yX11_lowest, cX11_lowest, 11, (some .long))
def mX11_mean : Mt := (11, yX11_mean, cX11_mean, 4, (some .long))
def mX11_drawn : Mt := (11, yX11_drawn, cX11_drawn, 6, (some .int))
def mX11_day : Mt := (11, yX11_day, cX11_day, 1, (some .int))
def mX11_note : Mt := (11, yX11_note, cX11_note, 2, none)
def mX11_bid : Mt := (11, yX11_bid, cX11_bid, 2, (some .int))
def mX11_give : Mt := (11, yX11_give, cX11_give, 4, (some .int))
def mX11_pour : Mt := (11, yX11_pour, cX11_pour, 3, (some .int))
def mX11_value : Mt := (11, yX11_value, cX11_value, 5, (some .int))
def mX11_undo : Mt := (11, yX11_undo, cX11_undo, 1, (some .boolean))
def mX11_isNot : Mt := (11, yX11_isNot, cX11_isNot, 2, (some .boolean))
def mX11_image : Mt := (11, yX11_image, cX11_image, 1, (some .int))
def mX11_back : Mt := (11, yX11_back, cX11_back, 2, (some .boolean))
def mX11_led : Mt := (11, yX11_led, cX11_led, 4, (some .int))
def mX11_size : Mt := (11, yX11_size, cX11_size, 2, (some .int))
def mX11_trouble : Mt := (11, yX11_trouble, cX11_trouble, 1, (some .int))
def cw (M : Mt) : Cond := Cond.code M.2.1 M.2.2.1 M.2.2.2.1 M.2.2.2.2
def MT_0 : List Mt := [mX10_init, mX8_init, mX1_init, mX7_init, mX6_init, mX2_init, mX3_init]
set_option maxRecDepth 100000 in
theorem MT_0_in : MT_0.map cw = ([29, 37, 95, 101, 140, 191, 227] : List Nat).filterMap (fun i => tables_1_1[i]?) := rfl
def MT_1 : List Mt := [mX0_init, mX4_init, mX5_init, mX9_init]
set_option maxRecDepth 100000 in
theorem MT_1_in : MT_1.map cw = ([22, 48, 67, 87] : List Nat).filterMap (fun i => tables_1_2[i]?) := rfl
def MT_2 : List Mt := [mX10_feed, mX8_hasRoom, mX8_append, mX10_table, mX10_refuse, mX8_read, mX9_clear, mX8_step, mX8_isLetter, mX8_takeWord, mX8_isDigit, mX8_takeWhole, mX8_readLine, mX8_lineSort, mX8_isWord, mJ0_length_8abf5, mJ0_coder_7d493, mJ0_charAt_5068e, mJ0_isLatin1_aae02, mJ1_charAt_3b067, mJ0_checkIndex_df160, mJ3_checkIndex_8e157, mJ2_charAt_3b067, mJ2_checkIndex_2214a, mJ2_length_9d52b, mJ2_getChar_3b067, mX8_fail, mX8_isFull, mX8_readTable, mX8_findsWhole, mX8_isWholeWithin, mX8_readPerson, mX8_findsNewName, mX8_wordHere, mX8_isSameWord, mX8_kindHere, mX8_readName, mX9_hasFrom, mX8_readFast, mX8_toldNameHere, mX9_fastingOn, mX8_readUnsure, mX9_isUnsure, mX8_readHeard, mX9_isHeardOn, mX7_begin, mJ7_fill_53178, mX4_forget, mX5_forget, mX10_answer, mX10_fault, mX10_where, mX10_person, mX10_lacksPerson]
set_option maxRecDepth 100000 in
theorem MT_2_in : MT_2.map cw = ([1, 5, 9, 13, 17, 21, 25, 32, 35, 39, 42, 46, 50, 54, 59, 63, 67, 73, 77, 80, 83, 88, 91, 94, 97, 101, 116, 119, 123, 128, 132, 138, 142, 146, 150, 154, 163, 168, 173, 177, 182, 186, 190, 194, 198, 202, 208, 212, 216, 220, 224, 228, 232, 236] : List Nat).filterMap (fun i => tables_1_3[i]?) := rfl
def MT_3 : List Mt := [mX10_name, mX10_lacksName, mX10_left, mX10_lacksTable, mX10_seen, mX7_isDead, mX7_seenHunger, mX10_calls, mX9_nameSeen, mX10_namer, mX7_whoNames, mX10_dish, mX7_nextDish, mX10_share, mX1_walk, mX1_start, mX7_copy, mX1_pass, mX6_hold, mX7_fastingNext, mX7_grow, mX7_living, mX6_seat, mX6_serve, mX7_worthOf, mX7_close, mX10_nameWith, mX10_isRefused, mX10_isOutside, mX10_dishWithGuest, mX10_greatestSeen, mX10_guestFor, mX10_namerIn, mX10_dishIn, mX10_hungerIn, mX10_leftIn, mX10_livingIn, mX10_hungriestIn, mX7_hungriest, mX10_unevenIn, mX7_unevenness, mX10_deadIn, mX10_eats, mX10_says, mX10_firstDish, mX10_named, mX10_worthIn, mX10_fastsFor, mX2_seekName, mX2_seekOn, mX7_freeToFast, mX7_endangered, mX2_keepsAll, mX2_isBetter, mJ6_bitCount_0f7a4]
set_option maxRecDepth 100000 in
theorem MT_3_in : MT_3.map cw = ([0, 4, 8, 12, 16, 20, 24, 28, 32, 36, 40, 46, 50, 56, 60, 64, 68, 73, 77, 81, 89, 93, 97, 102, 107, 114, 119, 123, 126, 130, 134, 138, 142, 146, 150, 154, 158, 163, 167, 171, 175, 181, 187, 191, 195, 199, 203, 207, 211, 215, 220, 226, 230, 235, 238] : List Nat).filterMap (fun i => tables_1_4[i]?) := rfl
def MT_4 : List Mt := [mX2_isFound, mX10_fastsAt, mX10_bestFast, mX2_seekWorth, mX2_weighFast, mX10_bestWorth, mX10_tables, mX10_bestFirstTable, mX10_worthOfTables, mX10_worthNamedBy, mX7_mostSeen, mX10_tablesWorth, mX10_bowlFor, mX10_bowlKeepsAll, mX10_fits, mX3_weigh, mX3_firstUnlike, mX9_lastHeardDay, mX10_fitAt, mX3_setAt, mX3_isFitting, mX10_could, mX10_surely, mX10_ask, mX3_whomToAsk, mX3_leftAtMost, mX10_askLeaves, mX10_judge, mX10_takes, mX10_gain, mX10_rests, mX10_isRest, mX10_rest, mX10_odds, mX0_weigh, mJ7_fill_d0a16, mX0_weighWay, mX0_lowest, mX10_mean, mX0_weightOfWorths, mX10_drawn, mX0_dishByDraws, mX10_day, mX4_keep, mX10_bid, mX10_give, mX10_pour, mX10_value, mX10_undo, mX4_takeBack, mX10_image, mX5_keep, mX10_back, mX5_show, mX10_size]
set_option maxRecDepth 100000 in
theorem MT_4_in : MT_4.map cw = ([5, 9, 13, 17, 22, 26, 30, 34, 38, 42, 46, 51, 55, 59, 63, 67, 71, 75, 83, 87, 91, 95, 99, 103, 107, 111, 116, 121, 126, 129, 133, 136, 140, 144, 149, 152, 157, 162, 166, 170, 174, 179, 184, 188, 195, 199, 204, 208, 212, 216, 220, 224, 229, 233, 237] : List Nat).filterMap (fun i => tables_1_5[i]?) := rfl
def MT_5 : List Mt := [mX10_trouble, mX10_led, mX11_init, mX11_thrown, mX11_feed, mX11_table, mX11_anew, mX11_in, mX11_no, mX11_next]
set_option maxRecDepth 100000 in
theorem MT_5_in : MT_5.map cw = ([1, 9, 75, 213, 217, 221, 225, 228, 232, 236] : List Nat).filterMap (fun i => tables_1_6[i]?) := rfl
def MT_6 : List Mt := [mX11_see, mX11_isSmall, mX11_isDigit, mX11_readLine, mX11_isWord, mX11_tableLine, mX11_wrong, mX11_after, mX11_must, mX11_takesWord, mX11_number, mX11_numberHere, mX11_pass, mX11_begins, mX11_personLine, mX11_newName, mX11_mustName, mX11_find, mX11_nameLine, mX11_fastLine, mX11_personHere, mX11_namedHere, mX11_unsureLine, mX11_heardLine, mX11_dishHere, mX11_copy, mX11_fault, mX11_where, mX11_person, mX11_isPerson, mX11_name, mX11_isName, mX11_left, mX11_seen, mX11_dawn, mX11_begin, mX11_lives, mX11_hasBit, mX11_seenOf, mX11_calls, mX11_nameAt, mX11_namer, mX11_daysOn, mX11_dayOn, mX11_fastersOf, mX11_namerOf, mX11_eatOn, mX11_dish, mX11_share, mX11_nameWith, mX11_why, mX11_seenMost, mX11_guestFor, mX11_namerIn, mX11_aheadWhy, mX11_dishIn, mX11_hungerIn]
set_option maxRecDepth 100000 in
theorem MT_6_in : MT_6.map cw = ([0, 3, 6, 10, 15, 21, 25, 30, 34, 38, 42, 46, 50, 57, 61, 65, 69, 77, 86, 92, 96, 100, 105, 109, 113, 116, 120, 124, 128, 132, 136, 140, 144, 148, 152, 156, 160, 163, 167, 171, 175, 179, 183, 187, 191, 195, 199, 203, 207, 211, 215, 219, 223, 227, 231, 235, 239] : List Nat).filterMap (fun i => tables_1_7[i]?) := rfl
def MT_7 : List Mt := [mX11_leftIn, mX11_livingIn, mX11_everybody, mX11_hungriestIn, mX11_hungriestOf, mX11_unevenIn, mX11_deadIn, mX11_eats, mX11_within, mX11_says, mX11_firstDish, mX11_named, mX11_worthIn, mX11_fastsFor, mX11_fastWhy, mX11_fastsOf, mX11_ones, mX11_mayFast, mX11_fastsAt, mX11_bestFast, mX11_bestFastOf, mX11_bestWorth, mX11_tables, mX11_tablesOf, mX11_worthOf, mX11_tablesWorth, mX11_bowlFor, mX11_fits, mX11_seekSets, mX11_wrongBy, mX11_fitAt, mX11_could, mX11_surely, mX11_ask, mX11_askOf, mX11_leavesOf, mX11_askLeaves, mX11_judge, mX11_takes, mX11_takesOf, mX11_rests, mX11_seekRests, mX11_rest, mX11_odds, mX11_tryFlinch, mX11_lowest, mX11_mean, mX11_drawn, mX11_day, mX11_note, mX11_bid, mX11_give, mX11_pour, mX11_value, mX11_undo, mX11_isNot, mX11_image, mX11_back, mX11_led, mX11_size]
set_option maxRecDepth 100000 in
theorem MT_7_in : MT_7.map cw = ([3, 7, 11, 15, 19, 23, 27, 31, 35, 39, 43, 47, 51, 55, 59, 63, 66, 70, 74, 78, 82, 86, 90, 94, 98, 102, 106, 110, 114, 118, 122, 126, 130, 134, 138, 142, 146, 150, 154, 157, 161, 165, 169, 173, 177, 180, 184, 188, 194, 198, 202, 206, 210, 214, 218, 222, 226, 230, 234, 238] : List Nat).filterMap (fun i => tables_1_8[i]?) := rfl
def MT_8 : List Mt := [mX11_trouble]
set_option maxRecDepth 100000 in
theorem MT_8_in : MT_8.map cw = ([2] : List Nat).filterMap (fun i => tables_1_9[i]?) := rfl
def MT : List Mt := MT_0 ++ (MT_1 ++ (MT_2 ++ (MT_3 ++ (MT_4 ++ (MT_5 ++ (MT_6 ++ (MT_7 ++ (MT_8))))))))
def dT : List (String × Nat) := [("()V", 0), ("(IIIII)I", 5), ("(I)Z", 1), ("(I)V", 1), ("(I)I", 1), ("(ILLeanTable$Told;)Z", 2), ("(B)Z", 1), ("(LLeanTable$Told;)Z", 1), ("()I", 0), ("(Ljava/lang/String;)Z", 1), ("()B", 0), ("(I)C", 1), ("()Z", 0), ("([BI)C", 2), ("(II)V", 2), ("(IILjava/util/function/BiFunction;)I", 3), ("(I[B)V", 2), ("([B)I", 1), ("(LLeanTable$Told;I)Z", 2), ("(Ljava/lang/String;II)Z", 3), ("(II)Z", 2), ("(ZI)Z", 2), ("(Z)I", 1), ("(LLeanTable$Told;I)V", 2), ("([II)V", 2), ("(II)I", 2), ("(LLeanTable$Told;I)I", 2), ("(LLeanTable$Told;Z)I", 2), ("(LLeanTable$Told;LLeanTable$Plight;I)V", 3), ("(LLeanTable$Plight;)V", 1), ("(LLeanTable$Told;LLeanTable$Plight;IZI)V", 5), ("(LLeanTable$Told;)I", 1), ("(LLeanTable$Told;)V", 1), ("(LLeanTable$Told;LLeanTable$Plight;I)I", 3), ("(LLeanTable$Plight;I)V", 2), ("(ZIII)Z", 4), ("(III)Z", 3), ("(LLeanTable$Told;LLeanTable$Plight;II)V", 4), ("(LLeanTable$FastSearch;LLeanTable$Told;II)V", 4), ("(LLeanTable$Told;II)Z", 3), ("(LLeanTable$Told;LLeanTable$Plight;)V", 2), ("(IZZZ)I", 4), ("(IZZ)I", 3), ("(IZZ)Z", 3), ("(IIZ)J", 3), ("([JJ)V", 2), ("(JJZ)J", 3), ("(IZ)J", 2), ("(LLeanTable$Told;LLeanTable$Plight;)J", 2), ("(LLeanTable$Told;LLeanTable$Plight;II)I", 4), ("(LLeanTable$Plight;)Z", 1), ("(LLeanTable$Plight;)I", 1), ("(ILLeanTable$Plight;)Z", 2), ("(Ljava/lang/String;II)I", 3), ("(Ljava/lang/String;)V", 1), ("(Ljava/lang/String;Z)Z", 2), ("([II[III)V", 5), ("([II)Z", 2), ("([III)I", 3), ("([IIZ)V", 3), ("([I)I", 1), ("([II)I", 2), ("([III)V", 3), ("(ZZ)I", 2), ("(ZII)I", 3), ("([IZ)I", 2), ("(III)V", 3)]
theorem dT_0 : (parseMethodDescriptor "()V").map (fun d => d.parameters.length) = some 0 := by decide +kernel
theorem dT_1 : (parseMethodDescriptor "(IIIII)I").map (fun d => d.parameters.length) = some 5 := by decide +kernel
theorem dT_2 : (parseMethodDescriptor "(I)Z").map (fun d => d.parameters.length) = some 1 := by decide +kernel
theorem dT_3 : (parseMethodDescriptor "(I)V").map (fun d => d.parameters.length) = some 1 := by decide +kernel
theorem dT_4 : (parseMethodDescriptor "(I)I").map (fun d => d.parameters.length) = some 1 := by decide +kernel
theorem dT_5 : (parseMethodDescriptor "(ILLeanTable$Told;)Z").map (fun d => d.parameters.length) = some 2 := by decide +kernel
theorem dT_6 : (parseMethodDescriptor "(B)Z").map (fun d => d.parameters.length) = some 1 := by decide +kernel
theorem dT_7 : (parseMethodDescriptor "(LLeanTable$Told;)Z").map (fun d => d.parameters.length) = some 1 := by decide +kernel
theorem dT_8 : (parseMethodDescriptor "()I").map (fun d => d.parameters.length) = some 0 := by decide +kernel
theorem dT_9 : (parseMethodDescriptor "(Ljava/lang/String;)Z").map (fun d => d.parameters.length) = some 1 := by decide +kernel
theorem dT_10 : (parseMethodDescriptor "()B").map (fun d => d.parameters.length) = some 0 := by decide +kernel
theorem dT_11 : (parseMethodDescriptor "(I)C").map (fun d => d.parameters.length) = some 1 := by decide +kernel
theorem dT_12 : (parseMethodDescriptor "()Z").map (fun d => d.parameters.length) = some 0 := by decide +kernel
theorem dT_13 : (parseMethodDescriptor "([BI)C").map (fun d => d.parameters.length) = some 2 := by decide +kernel
theorem dT_14 : (parseMethodDescriptor "(II)V").map (fun d => d.parameters.length) = some 2 := by decide +kernel
theorem dT_15 : (parseMethodDescriptor "(IILjava/util/function/BiFunction;)I").map (fun d => d.parameters.length) = some 3 := by decide +kernel
theorem dT_16 : (parseMethodDescriptor "(I[B)V").map (fun d => d.parameters.length) = some 2 := by decide +kernel
theorem dT_17 : (parseMethodDescriptor "([B)I").map (fun d => d.parameters.length) = some 1 := by decide +kernel
theorem dT_18 : (parseMethodDescriptor "(LLeanTable$Told;I)Z").map (fun d => d.parameters.length) = some 2 := by decide +kernel
theorem dT_19 : (parseMethodDescriptor "(Ljava/lang/String;II)Z").map (fun d => d.parameters.length) = some 3 := by decide +kernel
theorem dT_20 : (parseMethodDescriptor "(II)Z").map (fun d => d.parameters.length) = some 2 := by decide +kernel
theorem dT_21 : (parseMethodDescriptor "(ZI)Z").map (fun d => d.parameters.length) = some 2 := by decide +kernel
theorem dT_22 : (parseMethodDescriptor "(Z)I").map (fun d => d.parameters.length) = some 1 := by decide +kernel
theorem dT_23 : (parseMethodDescriptor "(LLeanTable$Told;I)V").map (fun d => d.parameters.length) = some 2 := by decide +kernel
theorem dT_24 : (parseMethodDescriptor "([II)V").map (fun d => d.parameters.length) = some 2 := by decide +kernel
theorem dT_25 : (parseMethodDescriptor "(II)I").map (fun d => d.parameters.length) = some 2 := by decide +kernel
theorem dT_26 : (parseMethodDescriptor "(LLeanTable$Told;I)I").map (fun d => d.parameters.length) = some 2 := by decide +kernel
theorem dT_27 : (parseMethodDescriptor "(LLeanTable$Told;Z)I").map (fun d => d.parameters.length) = some 2 := by decide +kernel
theorem dT_28 : (parseMethodDescriptor "(LLeanTable$Told;LLeanTable$Plight;I)V").map (fun d => d.parameters.length) = some 3 := by decide +kernel
theorem dT_29 : (parseMethodDescriptor "(LLeanTable$Plight;)V").map (fun d => d.parameters.length) = some 1 := by decide +kernel
theorem dT_30 : (parseMethodDescriptor "(LLeanTable$Told;LLeanTable$Plight;IZI)V").map (fun d => d.parameters.length) = some 5 := by decide +kernel
theorem dT_31 : (parseMethodDescriptor "(LLeanTable$Told;)I").map (fun d => d.parameters.length) = some 1 := by decide +kernel
theorem dT_32 : (parseMethodDescriptor "(LLeanTable$Told;)V").map (fun d => d.parameters.length) = some 1 := by decide +kernel
theorem dT_33 : (parseMethodDescriptor "(LLeanTable$Told;LLeanTable$Plight;I)I").map (fun d => d.parameters.length) = some 3 := by decide +kernel
theorem dT_34 : (parseMethodDescriptor "(LLeanTable$Plight;I)V").map (fun d => d.parameters.length) = some 2 := by decide +kernel
theorem dT_35 : (parseMethodDescriptor "(ZIII)Z").map (fun d => d.parameters.length) = some 4 := by decide +kernel
theorem dT_36 : (parseMethodDescriptor "(III)Z").map (fun d => d.parameters.length) = some 3 := by decide +kernel
theorem dT_37 : (parseMethodDescriptor "(LLeanTable$Told;LLeanTable$Plight;II)V").map (fun d => d.parameters.length) = some 4 := by decide +kernel
theorem dT_38 : (parseMethodDescriptor "(LLeanTable$FastSearch;LLeanTable$Told;II)V").map (fun d => d.parameters.length) = some 4 := by decide +kernel
theorem dT_39 : (parseMethodDescriptor "(LLeanTable$Told;II)Z").map (fun d => d.parameters.length) = some 3 := by decide +kernel
theorem dT_40 : (parseMethodDescriptor "(LLeanTable$Told;LLeanTable$Plight;)V").map (fun d => d.parameters.length) = some 2 := by decide +kernel
theorem dT_41 : (parseMethodDescriptor "(IZZZ)I").map (fun d => d.parameters.length) = some 4 := by decide +kernel
theorem dT_42 : (parseMethodDescriptor "(IZZ)I").map (fun d => d.parameters.length) = some 3 := by decide +kernel
theorem dT_43 : (parseMethodDescriptor "(IZZ)Z").map (fun d => d.parameters.length) = some 3 := by decide +kernel
theorem dT_44 : (parseMethodDescriptor "(IIZ)J").map (fun d => d.parameters.length) = some 3 := by decide +kernel
theorem dT_45 : (parseMethodDescriptor "([JJ)V").map (fun d => d.parameters.length) = some 2 := by decide +kernel
theorem dT_46 : (parseMethodDescriptor "(JJZ)J").map (fun d => d.parameters.length) = some 3 := by decide +kernel
theorem dT_47 : (parseMethodDescriptor "(IZ)J").map (fun d => d.parameters.length) = some 2 := by decide +kernel
theorem dT_48 : (parseMethodDescriptor "(LLeanTable$Told;LLeanTable$Plight;)J").map (fun d => d.parameters.length) = some 2 := by decide +kernel
theorem dT_49 : (parseMethodDescriptor "(LLeanTable$Told;LLeanTable$Plight;II)I").map (fun d => d.parameters.length) = some 4 := by decide +kernel
theorem dT_50 : (parseMethodDescriptor "(LLeanTable$Plight;)Z").map (fun d => d.parameters.length) = some 1 := by decide +kernel
theorem dT_51 : (parseMethodDescriptor "(LLeanTable$Plight;)I").map (fun d => d.parameters.length) = some 1 := by decide +kernel
theorem dT_52 : (parseMethodDescriptor "(ILLeanTable$Plight;)Z").map (fun d => d.parameters.length) = some 2 := by decide +kernel
theorem dT_53 : (parseMethodDescriptor "(Ljava/lang/String;II)I").map (fun d => d.parameters.length) = some 3 := by decide +kernel
theorem dT_54 : (parseMethodDescriptor "(Ljava/lang/String;)V").map (fun d => d.parameters.length) = some 1 := by decide +kernel
theorem dT_55 : (parseMethodDescriptor "(Ljava/lang/String;Z)Z").map (fun d => d.parameters.length) = some 2 := by decide +kernel
theorem dT_56 : (parseMethodDescriptor "([II[III)V").map (fun d => d.parameters.length) = some 5 := by decide +kernel
theorem dT_57 : (parseMethodDescriptor "([II)Z").map (fun d => d.parameters.length) = some 2 := by decide +kernel
theorem dT_58 : (parseMethodDescriptor "([III)I").map (fun d => d.parameters.length) = some 3 := by decide +kernel
theorem dT_59 : (parseMethodDescriptor "([IIZ)V").map (fun d => d.parameters.length) = some 3 := by decide +kernel
theorem dT_60 : (parseMethodDescriptor "([I)I").map (fun d => d.parameters.length) = some 1 := by decide +kernel
theorem dT_61 : (parseMethodDescriptor "([II)I").map (fun d => d.parameters.length) = some 2 := by decide +kernel
theorem dT_62 : (parseMethodDescriptor "([III)V").map (fun d => d.parameters.length) = some 3 := by decide +kernel
theorem dT_63 : (parseMethodDescriptor "(ZZ)I").map (fun d => d.parameters.length) = some 2 := by decide +kernel
theorem dT_64 : (parseMethodDescriptor "(ZII)I").map (fun d => d.parameters.length) = some 3 := by decide +kernel
theorem dT_65 : (parseMethodDescriptor "([IZ)I").map (fun d => d.parameters.length) = some 2 := by decide +kernel
theorem dT_66 : (parseMethodDescriptor "(III)V").map (fun d => d.parameters.length) = some 3 := by decide +kernel
theorem dT_ok : ∀ e ∈ dT, (parseMethodDescriptor e.1).map (fun d => d.parameters.length) = some e.2 := by
  unfold dT
  exact List.forall_mem_cons.mpr ⟨dT_0, List.forall_mem_cons.mpr ⟨dT_1, List.forall_mem_cons.mpr ⟨dT_2, List.forall_mem_cons.mpr ⟨dT_3, List.forall_mem_cons.mpr ⟨dT_4, List.forall_mem_cons.mpr ⟨dT_5, List.forall_mem_cons.mpr ⟨dT_6, List.forall_mem_cons.mpr ⟨dT_7, List.forall_mem_cons.mpr ⟨dT_8, List.forall_mem_cons.mpr ⟨dT_9, List.forall_mem_cons.mpr ⟨dT_10, List.forall_mem_cons.mpr ⟨dT_11, List.forall_mem_cons.mpr ⟨dT_12, List.forall_mem_cons.mpr ⟨dT_13, List.forall_mem_cons.mpr ⟨dT_14, List.forall_mem_cons.mpr ⟨dT_15, List.forall_mem_cons.mpr ⟨dT_16, List.forall_mem_cons.mpr ⟨dT_17, List.forall_mem_cons.mpr ⟨dT_18, List.forall_mem_cons.mpr ⟨dT_19, List.forall_mem_cons.mpr ⟨dT_20, List.forall_mem_cons.mpr ⟨dT_21, List.forall_mem_cons.mpr ⟨dT_22, List.forall_mem_cons.mpr ⟨dT_23, List.forall_mem_cons.mpr ⟨dT_24, List.forall_mem_cons.mpr ⟨dT_25, List.forall_mem_cons.mpr ⟨dT_26, List.forall_mem_cons.mpr ⟨dT_27, List.forall_mem_cons.mpr ⟨dT_28, List.forall_mem_cons.mpr ⟨dT_29, List.forall_mem_cons.mpr ⟨dT_30, List.forall_mem_cons.mpr ⟨dT_31, List.forall_mem_cons.mpr ⟨dT_32, List.forall_mem_cons.mpr ⟨dT_33, List.forall_mem_cons.mpr ⟨dT_34, List.forall_mem_cons.mpr ⟨dT_35, List.forall_mem_cons.mpr ⟨dT_36, List.forall_mem_cons.mpr ⟨dT_37, List.forall_mem_cons.mpr ⟨dT_38, List.forall_mem_cons.mpr ⟨dT_39, List.forall_mem_cons.mpr ⟨dT_40, List.forall_mem_cons.mpr ⟨dT_41, List.forall_mem_cons.mpr ⟨dT_42, List.forall_mem_cons.mpr ⟨dT_43, List.forall_mem_cons.mpr ⟨dT_44, List.forall_mem_cons.mpr ⟨dT_45, List.forall_mem_cons.mpr ⟨dT_46, List.forall_mem_cons.mpr ⟨dT_47, List.forall_mem_cons.mpr ⟨dT_48, List.forall_mem_cons.mpr ⟨dT_49, List.forall_mem_cons.mpr ⟨dT_50, List.forall_mem_cons.mpr ⟨dT_51, List.forall_mem_cons.mpr ⟨dT_52, List.forall_mem_cons.mpr ⟨dT_53, List.forall_mem_cons.mpr ⟨dT_54, List.forall_mem_cons.mpr ⟨dT_55, List.forall_mem_cons.mpr ⟨dT_56, List.forall_mem_cons.mpr ⟨dT_57, List.forall_mem_cons.mpr ⟨dT_58, List.forall_mem_cons.mpr ⟨dT_59, List.forall_mem_cons.mpr ⟨dT_60, List.forall_mem_cons.mpr ⟨dT_61, List.forall_mem_cons.mpr ⟨dT_62, List.forall_mem_cons.mpr ⟨dT_63, List.forall_mem_cons.mpr ⟨dT_64, List.forall_mem_cons.mpr ⟨dT_65, List.forall_mem_cons.mpr ⟨dT_66, fun _ h => absurd h List.not_mem_nil⟩⟩⟩⟩⟩⟩⟩⟩⟩⟩⟩⟩⟩⟩⟩⟩⟩⟩⟩⟩⟩⟩⟩⟩⟩⟩⟩⟩⟩⟩⟩⟩⟩⟩⟩⟩⟩⟩⟩⟩⟩⟩⟩⟩⟩⟩⟩⟩⟩⟩⟩⟩⟩⟩⟩⟩⟩⟩⟩⟩⟩⟩⟩⟩⟩⟩⟩
theorem pn_0 : plainName "LeanTable" = true ∧ "LeanTable" ≠ "java/lang/invoke/MethodHandle" ∧ "LeanTable" ≠ "java/lang/invoke/VarHandle" := by decide +kernel
theorem pn_1 : plainName "LeanTable$Reader" = true ∧ "LeanTable$Reader" ≠ "java/lang/invoke/MethodHandle" ∧ "LeanTable$Reader" ≠ "java/lang/invoke/VarHandle" := by decide +kernel
theorem pn_2 : plainName "LeanTable$Course" = true ∧ "LeanTable$Course" ≠ "java/lang/invoke/MethodHandle" ∧ "LeanTable$Course" ≠ "java/lang/invoke/VarHandle" := by decide +kernel
theorem pn_3 : plainName "LeanTable$Plight" = true ∧ "LeanTable$Plight" ≠ "java/lang/invoke/MethodHandle" ∧ "LeanTable$Plight" ≠ "java/lang/invoke/VarHandle" := by decide +kernel
theorem pn_4 : plainName "LeanTable$Meal" = true ∧ "LeanTable$Meal" ≠ "java/lang/invoke/MethodHandle" ∧ "LeanTable$Meal" ≠ "java/lang/invoke/VarHandle" := by decide +kernel
theorem pn_5 : plainName "LeanTable$FastSearch" = true ∧ "LeanTable$FastSearch" ≠ "java/lang/invoke/MethodHandle" ∧ "LeanTable$FastSearch" ≠ "java/lang/invoke/VarHandle" := by decide +kernel
theorem pn_6 : plainName "LeanTable$Hearsay" = true ∧ "LeanTable$Hearsay" ≠ "java/lang/invoke/MethodHandle" ∧ "LeanTable$Hearsay" ≠ "java/lang/invoke/VarHandle" := by decide +kernel
theorem pn_7 : plainName "LeanTable$Chances" = true ∧ "LeanTable$Chances" ≠ "java/lang/invoke/MethodHandle" ∧ "LeanTable$Chances" ≠ "java/lang/invoke/VarHandle" := by decide +kernel
theorem pn_8 : plainName "LeanTable$History" = true ∧ "LeanTable$History" ≠ "java/lang/invoke/MethodHandle" ∧ "LeanTable$History" ≠ "java/lang/invoke/VarHandle" := by decide +kernel
theorem pn_9 : plainName "LeanTable$Images" = true ∧ "LeanTable$Images" ≠ "java/lang/invoke/MethodHandle" ∧ "LeanTable$Images" ≠ "java/lang/invoke/VarHandle" := by decide +kernel
theorem pn_10 : plainName "LeanTable$Told" = true ∧ "LeanTable$Told" ≠ "java/lang/invoke/MethodHandle" ∧ "LeanTable$Told" ≠ "java/lang/invoke/VarHandle" := by decide +kernel
theorem pn_11 : plainName "java/lang/String" = true ∧ "java/lang/String" ≠ "java/lang/invoke/MethodHandle" ∧ "java/lang/String" ≠ "java/lang/invoke/VarHandle" := by decide +kernel
theorem pn_12 : plainName "java/lang/StringLatin1" = true ∧ "java/lang/StringLatin1" ≠ "java/lang/invoke/MethodHandle" ∧ "java/lang/StringLatin1" ≠ "java/lang/invoke/VarHandle" := by decide +kernel
theorem pn_13 : plainName "jdk/internal/util/Preconditions" = true ∧ "jdk/internal/util/Preconditions" ≠ "java/lang/invoke/MethodHandle" ∧ "jdk/internal/util/Preconditions" ≠ "java/lang/invoke/VarHandle" := by decide +kernel
theorem pn_14 : plainName "java/lang/StringUTF16" = true ∧ "java/lang/StringUTF16" ≠ "java/lang/invoke/MethodHandle" ∧ "java/lang/StringUTF16" ≠ "java/lang/invoke/VarHandle" := by decide +kernel
theorem pn_15 : plainName "java/util/Arrays" = true ∧ "java/util/Arrays" ≠ "java/lang/invoke/MethodHandle" ∧ "java/util/Arrays" ≠ "java/lang/invoke/VarHandle" := by decide +kernel
theorem pn_16 : plainName "java/lang/Integer" = true ∧ "java/lang/Integer" ≠ "java/lang/invoke/MethodHandle" ∧ "java/lang/Integer" ≠ "java/lang/invoke/VarHandle" := by decide +kernel
theorem pn_17 : plainName "LeanTableModel" = true ∧ "LeanTableModel" ≠ "java/lang/invoke/MethodHandle" ∧ "LeanTableModel" ≠ "java/lang/invoke/VarHandle" := by decide +kernel
def pnT : List String := ["LeanTable", "LeanTable$Reader", "LeanTable$Course", "LeanTable$Plight", "LeanTable$Meal", "LeanTable$FastSearch", "LeanTable$Hearsay", "LeanTable$Chances", "LeanTable$History", "LeanTable$Images", "LeanTable$Told", "java/lang/String", "java/lang/StringLatin1", "jdk/internal/util/Preconditions", "java/lang/StringUTF16", "java/util/Arrays", "java/lang/Integer", "LeanTableModel"]
theorem pnT_ok : ∀ c ∈ pnT, plainName c = true ∧ c ≠ "java/lang/invoke/MethodHandle" ∧ c ≠ "java/lang/invoke/VarHandle" := by
  unfold pnT
  exact List.forall_mem_cons.mpr ⟨pn_0, List.forall_mem_cons.mpr ⟨pn_1, List.forall_mem_cons.mpr ⟨pn_2, List.forall_mem_cons.mpr ⟨pn_3, List.forall_mem_cons.mpr ⟨pn_4, List.forall_mem_cons.mpr ⟨pn_5, List.forall_mem_cons.mpr ⟨pn_6, List.forall_mem_cons.mpr ⟨pn_7, List.forall_mem_cons.mpr ⟨pn_8, List.forall_mem_cons.mpr ⟨pn_9, List.forall_mem_cons.mpr ⟨pn_10, List.forall_mem_cons.mpr ⟨pn_11, List.forall_mem_cons.mpr ⟨pn_12, List.forall_mem_cons.mpr ⟨pn_13, List.forall_mem_cons.mpr ⟨pn_14, List.forall_mem_cons.mpr ⟨pn_15, List.forall_mem_cons.mpr ⟨pn_16, List.forall_mem_cons.mpr ⟨pn_17, fun _ h => absurd h List.not_mem_nil⟩⟩⟩⟩⟩⟩⟩⟩⟩⟩⟩⟩⟩⟩⟩⟩⟩⟩
def okm (e : Mt × (Nat × Nat × Nat × Nat × Nat × Nat × Nat)) : Bool := match e with
  | (M, (kd, n, dj, cj, p1, p2, p3)) => decide (dT[dj]? = some (M.2.1.desc, n)) && decide (pnT[cj]? = some M.2.1.cls) && decide (lw_tbl[p3]? = some (.initialized M.2.1.cls)) &&
    (match kd with
     | 0 => decide (lw_tbl[p1]? = some (.instanceMethod M.2.1)) && decide (lw_tbl[p2]? = some (.selects M.2.1.cls M.2.1 M.2.1))
     | 1 => decide (lw_tbl[p1]? = some (.static M.2.1))
     | _ => decide (lw_tbl[p1]? = some (.instanceMethod M.2.1)) && decide (M.2.1.name = "<init>"))
def MI_0 : List (Nat × Nat × Nat × Nat × Nat × Nat × Nat) := [(2, 0, 0, 0, 126, 0, 99), (2, 0, 0, 1, 134, 0, 100), (2, 0, 0, 2, 192, 0, 101), (2, 0, 0, 3, 198, 0, 102), (2, 0, 0, 4, 237, 0, 103), (2, 0, 0, 5, 288, 0, 104), (2, 0, 0, 6, 324, 0, 105)]
set_option maxRecDepth 100000 in
theorem MI_0_ok : (MT_0.zip MI_0).all okm = true := by decide +kernel
theorem MI_0_len : MT_0.length = MI_0.length := by decide +kernel
def MI_1 : List (Nat × Nat × Nat × Nat × Nat × Nat × Nat) := [(2, 0, 0, 7, 359, 0, 106), (2, 0, 0, 8, 385, 0, 107), (2, 0, 0, 9, 404, 0, 108), (2, 0, 0, 10, 424, 0, 109)]
set_option maxRecDepth 100000 in
theorem MI_1_ok : (MT_1.zip MI_1).all okm = true := by decide +kernel
theorem MI_1_len : MT_1.length = MI_1.length := by decide +kernel
def MI_2 : List (Nat × Nat × Nat × Nat × Nat × Nat × Nat) := [(0, 5, 1, 0, 577, 578, 99), (0, 1, 2, 1, 581, 582, 100), (0, 1, 3, 1, 585, 586, 100), (0, 1, 4, 0, 589, 590, 99), (0, 1, 4, 0, 594, 0, 99), (0, 2, 5, 1, 597, 598, 100), (0, 0, 0, 10, 601, 602, 109), (0, 0, 0, 1, 609, 1, 100), (1, 1, 6, 1, 612, 0, 100), (0, 0, 0, 1, 616, 2, 100), (1, 1, 6, 1, 619, 0, 100), (0, 0, 0, 1, 623, 3, 100), (0, 1, 7, 1, 627, 4, 100), (0, 0, 8, 1, 631, 5, 100), (0, 1, 9, 1, 636, 6, 100), (0, 0, 8, 11, 639, 640, 112), (0, 0, 10, 11, 643, 644, 112), (0, 1, 11, 11, 649, 650, 112), (0, 0, 12, 11, 653, 654, 112), (1, 2, 13, 12, 657, 0, 113), (1, 2, 14, 11, 660, 0, 112), (1, 3, 15, 13, 665, 0, 114), (1, 2, 13, 14, 668, 0, 115), (1, 2, 16, 14, 671, 0, 115), (1, 1, 17, 14, 674, 0, 115), (1, 2, 13, 14, 678, 0, 115), (0, 1, 2, 1, 693, 7, 100), (1, 2, 18, 1, 696, 0, 100), (0, 1, 7, 1, 700, 8, 100), (0, 3, 19, 1, 705, 9, 100), (0, 2, 20, 1, 709, 10, 100), (0, 1, 7, 1, 715, 11, 100), (0, 2, 21, 1, 719, 12, 100), (0, 0, 8, 1, 723, 13, 100), (0, 1, 2, 1, 727, 14, 100), (0, 0, 8, 1, 731, 15, 100), (0, 1, 7, 1, 740, 16, 100), (0, 1, 2, 10, 744, 745, 109), (0, 1, 7, 1, 750, 17, 100), (0, 1, 22, 1, 754, 18, 100), (0, 1, 4, 10, 758, 759, 109), (0, 1, 7, 1, 763, 19, 100), (0, 1, 2, 10, 766, 767, 109), (0, 1, 7, 1, 771, 20, 100), (0, 1, 2, 10, 774, 775, 109), (0, 2, 23, 3, 778, 779, 102), (1, 2, 24, 15, 785, 0, 117), (0, 0, 0, 8, 788, 789, 107), (0, 0, 0, 9, 792, 793, 108), (0, 1, 4, 0, 797, 21, 99), (0, 0, 8, 0, 800, 801, 99), (0, 0, 8, 0, 804, 805, 99), (0, 2, 25, 0, 808, 809, 99), (0, 1, 2, 0, 813, 22, 99)]
set_option maxRecDepth 100000 in
theorem MI_2_ok : (MT_2.zip MI_2).all okm = true := by decide +kernel
theorem MI_2_len : MT_2.length = MI_2.length := by decide +kernel
def MI_3 : List (Nat × Nat × Nat × Nat × Nat × Nat × Nat) := [(0, 2, 25, 0, 816, 817, 99), (0, 1, 2, 0, 821, 23, 99), (0, 0, 8, 0, 824, 825, 99), (0, 0, 12, 0, 829, 24, 99), (0, 1, 4, 0, 832, 833, 99), (0, 1, 2, 3, 836, 837, 102), (0, 2, 26, 3, 840, 841, 102), (0, 1, 4, 0, 844, 845, 99), (0, 1, 4, 10, 848, 849, 109), (0, 0, 8, 0, 852, 853, 99), (0, 2, 27, 3, 856, 857, 102), (0, 0, 8, 0, 862, 863, 99), (0, 2, 27, 3, 866, 867, 102), (0, 1, 4, 0, 872, 873, 99), (0, 3, 28, 2, 876, 877, 101), (0, 1, 29, 2, 880, 881, 101), (0, 1, 29, 3, 884, 885, 102), (0, 2, 23, 2, 889, 890, 101), (0, 5, 30, 4, 893, 894, 103), (0, 1, 31, 3, 897, 898, 102), (0, 1, 32, 3, 905, 906, 102), (0, 1, 31, 3, 909, 910, 102), (0, 3, 33, 4, 914, 25, 103), (0, 2, 34, 4, 919, 26, 103), (0, 1, 4, 3, 923, 924, 102), (0, 2, 23, 3, 930, 931, 102), (0, 1, 4, 0, 935, 936, 99), (0, 4, 35, 0, 940, 27, 99), (1, 3, 36, 0, 943, 0, 99), (0, 1, 4, 0, 947, 28, 99), (0, 0, 8, 0, 951, 29, 99), (0, 1, 4, 0, 954, 955, 99), (0, 1, 4, 0, 958, 959, 99), (0, 1, 4, 0, 962, 963, 99), (0, 2, 25, 0, 966, 967, 99), (0, 1, 4, 0, 970, 971, 99), (0, 1, 4, 0, 974, 975, 99), (0, 1, 4, 0, 979, 980, 99), (0, 1, 31, 3, 983, 984, 102), (0, 1, 4, 0, 987, 988, 99), (0, 1, 31, 3, 991, 992, 102), (0, 1, 4, 0, 997, 998, 99), (0, 2, 25, 0, 1003, 1004, 99), (0, 2, 25, 0, 1007, 1008, 99), (0, 1, 4, 0, 1011, 1012, 99), (0, 1, 4, 0, 1015, 1016, 99), (0, 1, 4, 0, 1019, 1020, 99), (0, 2, 25, 0, 1023, 1024, 99), (0, 4, 37, 5, 1027, 1028, 104), (1, 4, 38, 5, 1032, 0, 104), (0, 1, 31, 3, 1036, 1037, 102), (0, 1, 31, 3, 1042, 1043, 102), (0, 3, 39, 5, 1047, 30, 104), (0, 1, 2, 5, 1052, 31, 104), (1, 1, 4, 16, 1055, 0, 118)]
set_option maxRecDepth 100000 in
theorem MI_3_ok : (MT_3.zip MI_3).all okm = true := by decide +kernel
theorem MI_3_len : MT_3.length = MI_3.length := by decide +kernel
def MI_4 : List (Nat × Nat × Nat × Nat × Nat × Nat × Nat) := [(0, 0, 12, 5, 1061, 1062, 104), (0, 2, 25, 0, 1065, 1066, 99), (0, 0, 8, 0, 1069, 1070, 99), (0, 2, 40, 5, 1073, 1074, 104), (0, 2, 14, 5, 1079, 32, 104), (0, 0, 8, 0, 1082, 1083, 99), (0, 0, 8, 0, 1086, 1087, 99), (0, 0, 8, 0, 1091, 33, 99), (0, 1, 4, 0, 1095, 34, 99), (0, 1, 4, 0, 1099, 35, 99), (0, 2, 26, 3, 1102, 1103, 102), (0, 0, 8, 0, 1107, 1108, 99), (0, 1, 4, 0, 1111, 1112, 99), (0, 2, 20, 0, 1116, 36, 99), (0, 0, 8, 0, 1119, 1120, 99), (0, 1, 32, 6, 1123, 1124, 105), (0, 2, 26, 6, 1127, 1128, 105), (0, 0, 8, 10, 1131, 1132, 109), (0, 1, 4, 0, 1139, 1140, 99), (0, 1, 4, 6, 1143, 1144, 105), (0, 1, 2, 6, 1148, 37, 105), (0, 0, 8, 0, 1151, 1152, 99), (0, 0, 8, 0, 1155, 1156, 99), (0, 0, 8, 0, 1159, 1160, 99), (0, 1, 31, 6, 1163, 1164, 105), (0, 1, 4, 6, 1167, 1168, 105), (0, 0, 8, 0, 1172, 1173, 99), (0, 0, 8, 0, 1177, 1178, 99), (0, 4, 41, 0, 1182, 1183, 99), (1, 3, 42, 0, 1186, 0, 99), (0, 1, 4, 0, 1189, 1190, 99), (1, 3, 43, 0, 1193, 0, 99), (0, 1, 4, 0, 1196, 1197, 99), (0, 3, 44, 0, 1200, 1201, 99), (0, 3, 28, 7, 1205, 1206, 106), (1, 2, 45, 15, 1209, 0, 117), (0, 4, 37, 7, 1214, 38, 106), (1, 3, 46, 7, 1219, 0, 106), (0, 2, 47, 0, 1222, 1223, 99), (0, 2, 48, 7, 1226, 1227, 106), (0, 2, 25, 0, 1230, 1231, 99), (0, 4, 49, 7, 1235, 1236, 106), (0, 0, 8, 0, 1240, 1241, 99), (0, 1, 29, 8, 1244, 1245, 107), (0, 1, 4, 0, 1251, 1252, 99), (0, 2, 25, 0, 1255, 1256, 99), (0, 1, 4, 0, 1260, 1261, 99), (0, 2, 25, 0, 1264, 1265, 99), (0, 0, 12, 0, 1268, 1269, 99), (0, 1, 50, 8, 1272, 1273, 107), (0, 0, 8, 0, 1276, 1277, 99), (0, 1, 51, 9, 1280, 1281, 108), (0, 1, 2, 0, 1285, 1286, 99), (0, 2, 52, 9, 1289, 1290, 108), (0, 1, 4, 0, 1293, 1294, 99)]
set_option maxRecDepth 100000 in
theorem MI_4_ok : (MT_4.zip MI_4).all okm = true := by decide +kernel
theorem MI_4_len : MT_4.length = MI_4.length := by decide +kernel
def MI_5 : List (Nat × Nat × Nat × Nat × Nat × Nat × Nat) := [(0, 0, 8, 0, 1297, 1298, 99), (0, 1, 4, 0, 1305, 1306, 99), (2, 0, 0, 17, 1372, 0, 110), (0, 0, 8, 17, 1509, 1510, 110), (0, 5, 1, 17, 1513, 1514, 110), (0, 1, 4, 17, 1517, 1518, 110), (0, 0, 0, 17, 1522, 40, 110), (1, 3, 36, 17, 1525, 0, 110), (0, 1, 4, 17, 1529, 41, 110), (0, 0, 0, 17, 1533, 42, 110)]
set_option maxRecDepth 100000 in
theorem MI_5_ok : (MT_5.zip MI_5).all okm = true := by decide +kernel
theorem MI_5_len : MT_5.length = MI_5.length := by decide +kernel
def MI_6 : List (Nat × Nat × Nat × Nat × Nat × Nat × Nat) := [(0, 1, 4, 17, 1537, 43, 110), (1, 1, 2, 17, 1540, 0, 110), (1, 1, 2, 17, 1543, 0, 110), (0, 0, 0, 17, 1547, 44, 110), (0, 1, 9, 17, 1552, 45, 110), (0, 0, 0, 17, 1558, 46, 110), (0, 2, 14, 17, 1562, 47, 110), (0, 3, 53, 17, 1567, 48, 110), (0, 1, 54, 17, 1571, 49, 110), (0, 1, 9, 17, 1575, 50, 110), (0, 2, 25, 17, 1579, 51, 110), (0, 2, 25, 17, 1583, 52, 110), (0, 0, 0, 17, 1587, 53, 110), (0, 2, 55, 17, 1594, 54, 110), (0, 0, 0, 17, 1598, 55, 110), (0, 1, 3, 17, 1602, 56, 110), (0, 0, 0, 17, 1606, 57, 110), (0, 0, 8, 17, 1614, 58, 110), (0, 0, 0, 17, 1623, 59, 110), (0, 0, 0, 17, 1629, 60, 110), (0, 0, 8, 17, 1633, 61, 110), (0, 2, 25, 17, 1637, 62, 110), (0, 0, 0, 17, 1642, 63, 110), (0, 0, 0, 17, 1646, 64, 110), (0, 0, 8, 17, 1650, 65, 110), (1, 5, 56, 17, 1653, 0, 110), (0, 0, 8, 17, 1656, 1657, 110), (0, 0, 8, 17, 1660, 1661, 110), (0, 2, 25, 17, 1664, 1665, 110), (0, 1, 2, 17, 1669, 66, 110), (0, 2, 25, 17, 1672, 1673, 110), (0, 1, 2, 17, 1677, 67, 110), (0, 0, 8, 17, 1680, 1681, 110), (0, 1, 4, 17, 1684, 1685, 110), (0, 0, 0, 17, 1689, 68, 110), (0, 0, 0, 17, 1693, 69, 110), (0, 2, 57, 17, 1697, 70, 110), (1, 2, 20, 17, 1700, 0, 110), (0, 3, 58, 17, 1704, 71, 110), (0, 1, 4, 17, 1707, 1708, 110), (0, 1, 4, 17, 1712, 72, 110), (0, 0, 8, 17, 1715, 1716, 110), (0, 1, 3, 17, 1720, 73, 110), (0, 3, 59, 17, 1724, 74, 110), (0, 1, 60, 17, 1728, 75, 110), (0, 2, 61, 17, 1732, 76, 110), (0, 3, 62, 17, 1736, 77, 110), (0, 0, 8, 17, 1739, 1740, 110), (0, 1, 4, 17, 1743, 1744, 110), (0, 1, 4, 17, 1747, 1748, 110), (0, 2, 63, 17, 1752, 78, 110), (0, 0, 8, 17, 1756, 79, 110), (0, 1, 4, 17, 1759, 1760, 110), (0, 1, 4, 17, 1763, 1764, 110), (0, 3, 64, 17, 1768, 80, 110), (0, 1, 4, 17, 1771, 1772, 110), (0, 2, 25, 17, 1775, 1776, 110)]
set_option maxRecDepth 100000 in
theorem MI_6_ok : (MT_6.zip MI_6).all okm = true := by decide +kernel
theorem MI_6_len : MT_6.length = MI_6.length := by decide +kernel
def MI_7 : List (Nat × Nat × Nat × Nat × Nat × Nat × Nat) := [(0, 1, 4, 17, 1779, 1780, 110), (0, 1, 4, 17, 1783, 1784, 110), (0, 0, 8, 17, 1788, 81, 110), (0, 1, 4, 17, 1791, 1792, 110), (0, 2, 65, 17, 1796, 82, 110), (0, 1, 4, 17, 1799, 1800, 110), (0, 1, 4, 17, 1803, 1804, 110), (0, 2, 25, 17, 1807, 1808, 110), (0, 3, 66, 17, 1812, 83, 110), (0, 2, 25, 17, 1815, 1816, 110), (0, 1, 4, 17, 1819, 1820, 110), (0, 1, 4, 17, 1823, 1824, 110), (0, 1, 4, 17, 1827, 1828, 110), (0, 2, 25, 17, 1831, 1832, 110), (0, 2, 25, 17, 1836, 84, 110), (0, 2, 25, 17, 1840, 85, 110), (1, 1, 4, 17, 1843, 0, 110), (0, 2, 20, 17, 1847, 86, 110), (0, 2, 25, 17, 1850, 1851, 110), (0, 0, 8, 17, 1854, 1855, 110), (0, 0, 8, 17, 1859, 87, 110), (0, 0, 8, 17, 1862, 1863, 110), (0, 0, 8, 17, 1866, 1867, 110), (0, 0, 8, 17, 1871, 88, 110), (0, 1, 4, 17, 1875, 89, 110), (0, 0, 8, 17, 1878, 1879, 110), (0, 1, 4, 17, 1882, 1883, 110), (0, 0, 8, 17, 1886, 1887, 110), (0, 1, 4, 17, 1891, 90, 110), (0, 1, 4, 17, 1895, 91, 110), (0, 1, 4, 17, 1898, 1899, 110), (0, 0, 8, 17, 1902, 1903, 110), (0, 0, 8, 17, 1906, 1907, 110), (0, 0, 8, 17, 1910, 1911, 110), (0, 0, 8, 17, 1915, 92, 110), (0, 1, 4, 17, 1919, 93, 110), (0, 0, 8, 17, 1922, 1923, 110), (0, 0, 8, 17, 1926, 1927, 110), (0, 4, 41, 17, 1930, 1931, 110), (1, 3, 42, 17, 1934, 0, 110), (0, 1, 4, 17, 1937, 1938, 110), (0, 1, 4, 17, 1942, 94, 110), (0, 1, 4, 17, 1945, 1946, 110), (0, 3, 44, 17, 1949, 1950, 110), (0, 2, 14, 17, 1954, 95, 110), (1, 3, 46, 17, 1957, 0, 110), (0, 2, 47, 17, 1960, 1961, 110), (0, 2, 25, 17, 1964, 1965, 110), (0, 0, 8, 17, 1970, 1971, 110), (0, 0, 0, 17, 1975, 96, 110), (0, 1, 4, 17, 1978, 1979, 110), (0, 2, 25, 17, 1982, 1983, 110), (0, 1, 4, 17, 1986, 1987, 110), (0, 2, 25, 17, 1990, 1991, 110), (0, 0, 12, 17, 1994, 1995, 110), (0, 1, 2, 17, 1999, 97, 110), (0, 0, 8, 17, 2002, 2003, 110), (0, 1, 2, 17, 2006, 2007, 110), (0, 1, 4, 17, 2010, 2011, 110), (0, 1, 4, 17, 2014, 2015, 110)]
set_option maxRecDepth 100000 in
theorem MI_7_ok : (MT_7.zip MI_7).all okm = true := by decide +kernel
theorem MI_7_len : MT_7.length = MI_7.length := by decide +kernel
def MI_8 : List (Nat × Nat × Nat × Nat × Nat × Nat × Nat) := [(0, 0, 8, 17, 2018, 2019, 110)]
set_option maxRecDepth 100000 in
theorem MI_8_ok : (MT_8.zip MI_8).all okm = true := by decide +kernel
theorem MI_8_len : MT_8.length = MI_8.length := by decide +kernel
def fT : List (Nat × Nat × Nat × Nat × Nat) := [(8, 29, 8, 0, 137), (10, 90, 8, 0, 138), (10, 102, 8, 1, 139), (8, 57, 8, 1, 140), (8, 60, 8, 2, 141), (10, 125, 8, 2, 142), (8, 9, 8, 3, 143), (8, 15, 8, 4, 144), (8, 19, 8, 5, 145), (8, 22, 8, 6, 146), (8, 26, 8, 7, 147), (8, 50, 8, 8, 148), (8, 44, 8, 9, 149), (8, 211, 8, 10, 150), (8, 47, 8, 11, 151), (8, 70, 8, 12, 152), (8, 127, 8, 13, 153), (8, 53, 8, 14, 154), (7, 9, 7, 0, 201), (6, 76, 7, 0, 202), (10, 131, 7, 0, 203), (7, 15, 7, 1, 204), (10, 141, 7, 1, 205), (7, 18, 7, 2, 206), (0, 68, 7, 2, 207), (10, 156, 7, 2, 208), (7, 47, 7, 3, 209), (2, 80, 7, 3, 210), (10, 144, 7, 3, 211), (7, 50, 7, 4, 212), (10, 147, 7, 4, 213), (6, 56, 7, 5, 214), (7, 53, 7, 5, 215), (10, 163, 7, 5, 216), (7, 56, 7, 6, 217), (10, 332, 7, 6, 218), (6, 9, 6, 0, 240), (1, 61, 6, 0, 241), (10, 202, 6, 0, 242), (6, 15, 6, 1, 243), (3, 72, 6, 1, 244), (1, 64, 6, 1, 245), (0, 62, 6, 1, 246), (10, 205, 6, 1, 247), (6, 18, 6, 2, 248), (1, 58, 6, 2, 249), (6, 22, 6, 3, 250), (1, 12, 1, 0, 260), (10, 208, 1, 0, 261), (1, 21, 1, 1, 262), (10, 201, 1, 1, 263), (1, 25, 1, 2, 264), (10, 187, 1, 2, 265), (1, 29, 1, 3, 266), (10, 231, 1, 3, 267), (1, 42, 1, 4, 268), (10, 234, 1, 4, 269), (1, 46, 1, 5, 270), (10, 237, 1, 5, 271), (2, 25, 2, 0, 296), (10, 247, 2, 0, 297), (2, 35, 2, 1, 298), (10, 250, 2, 1, 299), (2, 83, 2, 2, 300), (10, 257, 2, 2, 301), (2, 11, 2, 3, 302), (2, 20, 2, 4, 303), (2, 29, 2, 5, 304), (2, 32, 2, 6, 305), (3, 33, 3, 0, 331), (10, 274, 3, 0, 332), (3, 36, 3, 1, 333), (10, 280, 3, 1, 334), (3, 39, 3, 2, 335), (10, 283, 3, 2, 336), (3, 29, 3, 3, 337), (3, 9, 3, 4, 338), (3, 18, 3, 5, 339), (3, 25, 3, 6, 340), (0, 35, 0, 0, 366), (10, 311, 0, 0, 367), (0, 9, 0, 1, 368), (10, 307, 0, 1, 369), (0, 18, 0, 2, 370), (0, 25, 0, 3, 371), (4, 26, 4, 0, 390), (10, 380, 4, 0, 391), (4, 18, 4, 1, 392), (4, 11, 4, 2, 393), (5, 18, 5, 0, 409), (10, 381, 5, 0, 410), (5, 11, 5, 1, 411), (9, 45, 9, 0, 427), (3, 65, 9, 0, 428), (0, 55, 9, 0, 429), (1, 74, 9, 0, 430), (2, 71, 9, 0, 431), (8, 130, 9, 0, 432), (10, 225, 9, 0, 433), (9, 49, 9, 1, 434), (8, 134, 9, 1, 435), (7, 80, 9, 1, 436), (10, 362, 9, 1, 437), (9, 52, 9, 2, 438), (0, 49, 9, 2, 439), (8, 138, 9, 2, 440), (10, 365, 9, 2, 441), (9, 55, 9, 3, 442), (6, 73, 9, 3, 443), (1, 53, 9, 3, 444), (10, 116, 9, 3, 445), (8, 77, 9, 3, 446), (7, 59, 9, 3, 447), (9, 58, 9, 4, 448), (0, 65, 9, 4, 449), (8, 109, 9, 4, 450), (10, 368, 9, 4, 451), (9, 61, 9, 5, 452), (8, 112, 9, 5, 453), (10, 371, 9, 5, 454), (3, 42, 9, 6, 455), (9, 64, 9, 6, 456), (7, 37, 9, 6, 457), (8, 115, 9, 6, 458), (10, 374, 9, 6, 459), (9, 67, 9, 7, 460), (3, 75, 9, 7, 461), (8, 118, 9, 7, 462), (10, 377, 9, 7, 463), (9, 9, 9, 8, 464), (7, 21, 9, 8, 465), (8, 152, 9, 8, 466), (9, 15, 9, 9, 467), (10, 135, 9, 9, 468), (7, 77, 9, 9, 469), (8, 156, 9, 9, 470), (9, 18, 9, 10, 471), (10, 138, 9, 10, 472), (8, 147, 9, 10, 473), (7, 83, 9, 10, 474), (9, 21, 9, 11, 475), (10, 153, 9, 11, 476), (8, 160, 9, 11, 477), (9, 24, 9, 12, 478), (7, 30, 9, 12, 479), (8, 164, 9, 12, 480), (9, 27, 9, 13, 481), (8, 176, 9, 13, 482), (9, 30, 9, 14, 483), (8, 179, 9, 14, 484), (9, 33, 9, 15, 485), (7, 41, 9, 15, 486), (8, 189, 9, 15, 487), (9, 36, 9, 16, 488), (7, 44, 9, 16, 489), (8, 192, 9, 16, 490), (9, 39, 9, 17, 491), (3, 81, 9, 17, 492), (8, 198, 9, 17, 493), (9, 42, 9, 18, 494), (3, 78, 9, 18, 495), (8, 201, 9, 18, 496), (10, 10, 10, 0, 536), (10, 19, 10, 1, 537), (10, 26, 10, 2, 538), (10, 33, 10, 3, 539), (10, 40, 10, 4, 540), (10, 47, 10, 5, 541), (10, 54, 10, 6, 542), (10, 61, 10, 7, 543), (10, 68, 10, 8, 544), (10, 75, 10, 9, 545), (10, 79, 10, 10, 546), (10, 122, 10, 11, 547), (10, 105, 10, 12, 548), (11, 53, 11, 0, 1375), (11, 7, 11, 1, 1376), (11, 59, 11, 2, 1377), (11, 62, 11, 3, 1378), (11, 72, 11, 4, 1379), (11, 65, 11, 5, 1380), (11, 81, 11, 6, 1381), (11, 78, 11, 7, 1382), (11, 75, 11, 8, 1383), (11, 95, 11, 9, 1384), (11, 13, 11, 10, 1385), (11, 56, 11, 11, 1386), (11, 17, 11, 12, 1387), (11, 91, 11, 13, 1388), (11, 174, 11, 14, 1389), (11, 20, 11, 15, 1390), (11, 23, 11, 16, 1391), (11, 26, 11, 17, 1392), (11, 29, 11, 18, 1393), (11, 32, 11, 19, 1394), (11, 35, 11, 20, 1395), (11, 38, 11, 21, 1396), (11, 41, 11, 22, 1397), (11, 177, 11, 23, 1398), (11, 180, 11, 24, 1399), (11, 268, 11, 25, 1400), (11, 257, 11, 26, 1401), (11, 44, 11, 27, 1402), (11, 47, 11, 28, 1403), (11, 311, 11, 29, 1404), (11, 314, 11, 30, 1405), (11, 317, 11, 31, 1406), (11, 320, 11, 32, 1407), (11, 323, 11, 33, 1408), (11, 342, 11, 34, 1409), (11, 348, 11, 35, 1410), (11, 50, 11, 36, 1411), (11, 357, 11, 37, 1412), (11, 360, 11, 38, 1413), (11, 363, 11, 39, 1414), (11, 382, 11, 40, 1415), (11, 388, 11, 41, 1416), (11, 392, 11, 42, 1417), (11, 395, 11, 43, 1418)]
def okf (e : Nat × Nat × Nat × Nat × Nat) : Bool := match vwCl[e.2.2.1]? with
  | some (_, T, N) => decide (e.2.2.2.1 < N) && decide (lw_tbl[e.2.2.2.2]? = some (.fieldLink (cN e.1) e.2.1 (T e.2.2.2.1).1 (T e.2.2.2.1).2.1 (T e.2.2.2.1).2.2.1)) && decide ((T e.2.2.2.1).1 = cN e.2.2.1)
  | none => false
theorem fT_ok : fT.all okf = true := by decide +kernel
def lT : List (Nat × Nat × Nat × Nat) := [(12, 15, 0, 125), (10, 25, 5, 287), (10, 46, 8, 384), (10, 53, 9, 403), (12, 19, 11, 576), (10, 82, 12, 580), (10, 86, 13, 584), (12, 24, 14, 588), (10, 94, 15, 592), (10, 98, 16, 596), (8, 33, 17, 600), (8, 63, 18, 607), (8, 242, 19, 611), (8, 246, 20, 614), (8, 249, 21, 618), (8, 252, 22, 621), (8, 66, 23, 625), (8, 83, 24, 629), (8, 204, 25, 634), (8, 233, 26, 638), (8, 238, 28, 648), (8, 73, 37, 691), (8, 87, 38, 695), (8, 91, 39, 698), (8, 123, 40, 703), (8, 185, 41, 707), (8, 94, 42, 713), (8, 140, 43, 717), (8, 208, 44, 721), (8, 214, 45, 725), (8, 144, 46, 729), (8, 97, 47, 738), (8, 80, 48, 743), (8, 100, 49, 748), (8, 166, 50, 752), (8, 172, 51, 757), (8, 103, 52, 761), (8, 182, 53, 765), (8, 106, 54, 769), (8, 195, 55, 773), (10, 108, 56, 777), (7, 31, 57, 784), (10, 112, 58, 787), (10, 115, 59, 791), (10, 119, 60, 795), (12, 28, 61, 799), (12, 33, 62, 803), (12, 37, 63, 807), (10, 128, 64, 811), (12, 42, 65, 815), (10, 150, 66, 819), (12, 46, 67, 823), (10, 159, 68, 827), (12, 50, 69, 831), (10, 166, 70, 835), (10, 169, 71, 839), (12, 54, 72, 843), (10, 173, 73, 847), (12, 58, 74, 851), (10, 176, 75, 855), (7, 73, 70, 859), (7, 86, 71, 860), (12, 62, 76, 861), (10, 180, 77, 865), (7, 90, 75, 869), (7, 94, 73, 870), (12, 66, 78, 871), (10, 183, 79, 875), (1, 71, 80, 879), (1, 32, 81, 883), (1, 36, 57, 887), (1, 77, 82, 888), (1, 49, 83, 892), (6, 25, 84, 896), (7, 62, 51, 900), (6, 31, 75, 901), (6, 35, 71, 902), (6, 39, 73, 903), (6, 45, 85, 904), (6, 49, 86, 908), (6, 52, 87, 912), (6, 65, 88, 917), (6, 79, 57, 921), (6, 85, 89, 922), (6, 69, 90, 929), (1, 67, 89, 933), (12, 70, 91, 934), (10, 190, 92, 938), (10, 324, 93, 942), (10, 194, 94, 945), (10, 197, 95, 949), (12, 74, 96, 953), (12, 78, 97, 957), (12, 82, 98, 961), (12, 86, 99, 965), (12, 90, 100, 969), (12, 94, 101, 973), (10, 211, 86, 977), (12, 98, 102, 978), (10, 215, 103, 982), (12, 102, 104, 986), (10, 218, 105, 990), (7, 97, 103, 994), (12, 106, 106, 996), (10, 221, 80, 1000), (10, 228, 82, 1001), (12, 110, 107, 1002), (12, 114, 108, 1006), (12, 118, 109, 1010), (12, 122, 110, 1014), (12, 126, 111, 1018), (12, 130, 112, 1022), (10, 240, 113, 1026), (2, 38, 81, 1030), (2, 42, 114, 1031), (2, 46, 77, 1034), (2, 50, 115, 1035), (7, 66, 86, 1039), (7, 70, 84, 1040), (2, 54, 116, 1041), (2, 57, 117, 1045), (2, 76, 83, 1049), (2, 61, 118, 1050), (2, 65, 119, 1054), (10, 244, 120, 1060), (12, 134, 121, 1064), (12, 138, 122, 1068), (10, 253, 123, 1072), (2, 86, 89, 1076), (2, 89, 124, 1077), (12, 142, 125, 1081), (12, 146, 126, 1085), (10, 260, 127, 1089), (10, 263, 128, 1093), (10, 382, 129, 1097), (10, 385, 130, 1101), (10, 388, 89, 1105), (12, 150, 131, 1106), (12, 154, 132, 1110), (10, 266, 133, 1114), (12, 158, 134, 1118), (10, 270, 135, 1122), (3, 47, 136, 1126), (3, 51, 137, 1130), (3, 61, 56, 1136), (3, 68, 83, 1137), (12, 162, 138, 1138), (10, 277, 139, 1142), (3, 84, 140, 1146), (12, 166, 141, 1150), (12, 170, 142, 1154), (12, 174, 143, 1158), (10, 286, 144, 1162), (3, 88, 145, 1166), (12, 178, 146, 1171), (10, 289, 145, 1175), (12, 182, 147, 1176), (10, 292, 136, 1180), (12, 186, 148, 1181), (10, 295, 149, 1185), (12, 191, 150, 1188), (10, 299, 151, 1192), (12, 195, 152, 1195), (12, 199, 153, 1199), (10, 305, 154, 1204), (0, 29, 155, 1208), (0, 41, 156, 1212), (0, 45, 81, 1216), (0, 58, 83, 1217), (10, 315, 157, 1218), (12, 204, 158, 1221), (10, 319, 159, 1225), (12, 209, 160, 1229), (10, 328, 161, 1234), (12, 213, 162, 1239), (10, 335, 163, 1243), (4, 22, 81, 1247), (10, 338, 83, 1249), (12, 217, 164, 1250), (12, 221, 165, 1254), (12, 225, 166, 1259), (12, 229, 167, 1263), (12, 233, 168, 1267), (10, 348, 169, 1271), (12, 238, 170, 1275), (10, 352, 171, 1279), (5, 22, 81, 1283), (12, 242, 172, 1284), (10, 355, 173, 1288), (12, 256, 174, 1292), (12, 260, 175, 1296), (12, 7, 176, 1304), (12, 18, 177, 1371), (12, 253, 178, 1508), (12, 23, 179, 1512), (12, 27, 180, 1516), (11, 161, 181, 1520), (11, 140, 182, 1524), (11, 164, 183, 1527), (11, 112, 184, 1531), (11, 68, 185, 1535), (11, 84, 186, 1539), (11, 88, 187, 1542), (11, 167, 188, 1545), (11, 108, 189, 1550), (11, 98, 26, 1554), (11, 104, 28, 1555), (11, 183, 190, 1556), (11, 118, 191, 1560), (11, 207, 192, 1565), (11, 154, 193, 1569), (11, 115, 194, 1573), (11, 158, 195, 1577), (11, 148, 196, 1581), (11, 151, 197, 1585), (11, 186, 198, 1592), (11, 190, 199, 1596), (11, 215, 200, 1600), (11, 134, 201, 1604), (11, 137, 202, 1612), (11, 193, 203, 1621), (11, 196, 204, 1627), (11, 233, 205, 1631), (11, 144, 206, 1635), (11, 199, 207, 1640), (11, 202, 208, 1644), (11, 238, 209, 1648), (11, 170, 210, 1652), (12, 32, 211, 1655), (12, 36, 212, 1659), (12, 41, 213, 1663), (11, 285, 214, 1667), (12, 45, 215, 1671), (11, 288, 216, 1675), (12, 49, 217, 1679), (12, 53, 218, 1683), (11, 291, 219, 1687), (11, 278, 220, 1691), (11, 249, 221, 1695), (11, 245, 222, 1699), (11, 253, 223, 1702), (12, 57, 224, 1706), (11, 271, 225, 1710), (12, 61, 226, 1714), (11, 294, 227, 1718), (11, 281, 228, 1722), (11, 260, 229, 1726), (11, 264, 230, 1730), (11, 274, 231, 1734), (12, 65, 232, 1738), (12, 69, 233, 1742), (12, 73, 234, 1746), (11, 241, 235, 1750), (11, 297, 236, 1754), (12, 77, 237, 1758), (12, 81, 238, 1762), (11, 300, 239, 1766), (12, 85, 240, 1770), (12, 89, 241, 1774), (12, 93, 242, 1778), (12, 97, 243, 1782), (11, 304, 244, 1786), (12, 101, 245, 1790), (11, 307, 246, 1794), (12, 105, 247, 1798), (12, 109, 248, 1802), (12, 113, 249, 1806), (11, 326, 250, 1810), (12, 117, 251, 1814), (12, 121, 252, 1818), (12, 125, 253, 1822), (12, 129, 254, 1826), (12, 133, 255, 1830), (11, 336, 256, 1834), (11, 339, 257, 1838), (11, 330, 258, 1842), (11, 333, 259, 1845), (12, 137, 260, 1849), (12, 141, 261, 1853), (11, 345, 262, 1857), (12, 145, 263, 1861), (12, 149, 264, 1865), (11, 354, 265, 1869), (11, 351, 266, 1873), (12, 153, 267, 1877), (12, 157, 268, 1881), (12, 161, 269, 1885), (11, 369, 270, 1889), (11, 366, 271, 1893), (12, 165, 272, 1897), (12, 169, 273, 1901), (12, 173, 274, 1905), (12, 177, 275, 1909), (11, 375, 276, 1913), (11, 372, 277, 1917), (12, 181, 278, 1921), (12, 185, 279, 1925), (12, 190, 280, 1929), (11, 378, 281, 1933), (12, 194, 282, 1936), (11, 385, 283, 1940), (12, 198, 284, 1944), (12, 203, 285, 1948), (11, 398, 286, 1952), (11, 401, 287, 1956), (12, 208, 288, 1959), (12, 212, 289, 1963), (12, 216, 290, 1969), (11, 407, 291, 1973), (12, 220, 292, 1977), (12, 224, 293, 1981), (12, 228, 294, 1985), (12, 232, 295, 1989), (12, 237, 296, 1993), (11, 410, 297, 1997), (12, 241, 298, 2001), (12, 246, 299, 2005), (12, 252, 300, 2009), (12, 259, 301, 2013), (12, 263, 302, 2017)]
def okl (e : Nat × Nat × Nat × Nat) : Bool := match MT[e.2.2.1]? with
  | some M => decide (lw_tbl[e.2.2.2]? = some (.methodLink (cN e.1) e.2.1 M.2.1))
  | none => false
set_option maxRecDepth 100000 in
theorem lT_ok : lT.all okl = true := by decide +kernel
def nT : List (Nat × Nat × Nat × Nat) := [(10, 9, 1, 133), (10, 18, 2, 191), (1, 11, 3, 197), (1, 20, 4, 236), (2, 19, 4, 294), (2, 24, 3, 295), (10, 32, 6, 323), (3, 17, 3, 328), (3, 24, 4, 330), (10, 39, 7, 358), (0, 17, 3, 363), (0, 24, 4, 365), (4, 17, 3, 389), (5, 17, 3, 408), (10, 60, 4, 418), (10, 67, 3, 420), (10, 74, 10, 423)]
def okn (e : Nat × Nat × Nat × Nat) : Bool := match MT[e.2.2.1]? with
  | some M => decide (lw_tbl[e.2.2.2]? = some (.methodLinkNest (cN e.1) e.2.1 M.2.1 "LeanTable"))
  | none => false
set_option maxRecDepth 100000 in
theorem nT_ok : nT.all okn = true := by decide +kernel
def gT : List (Nat × Nat × Nat × Nat × Nat × Nat) := [(12, 8, 10, 123, 124, 99), (10, 7, 8, 131, 132, 100), (10, 16, 1, 189, 190, 101), (1, 9, 7, 195, 196, 102), (1, 18, 6, 234, 235, 103), (10, 23, 2, 285, 286, 104), (2, 9, 7, 291, 196, 102), (2, 17, 6, 293, 235, 103), (10, 30, 3, 321, 322, 105), (3, 15, 7, 327, 196, 102), (3, 22, 6, 329, 235, 103), (10, 37, 0, 356, 357, 106), (0, 15, 7, 362, 196, 102), (0, 22, 6, 364, 235, 103), (10, 44, 4, 382, 383, 107), (4, 9, 7, 388, 196, 102), (10, 51, 5, 401, 402, 108), (5, 9, 7, 407, 196, 102), (10, 58, 6, 417, 235, 103), (10, 65, 7, 419, 196, 102), (10, 72, 9, 421, 422, 109), (12, 16, 11, 1369, 1370, 110)]
def okg (e : Nat × Nat × Nat × Nat × Nat × Nat) : Bool := match vwCl[e.2.2.1]? with
  | some (C, _, N) => decide (lw_tbl[e.2.2.2.1]? = some (.classLink (cN e.1) e.2.1 C)) && decide (lw_tbl[e.2.2.2.2.1]? = some (.instantiable C N)) && decide (lw_tbl[e.2.2.2.2.2]? = some (.initialized C))
  | none => false
theorem gT_ok : gT.all okg = true := by decide +kernel
def kT : List (Nat × Nat × Int32 × Nat) := [(10, 323, 65536, 1233), (0, 72, 65537, 1238), (11, 405, 65536, 1967), (11, 406, 65537, 1968)]
theorem kT_ok : kT.all (fun e => decide (lw_tbl[e.2.2.2]? = some (.constant (cN e.1) e.2.1 e.2.2.1))) = true := by decide +kernel
def kL : List (Nat × Nat × Int64 × Nat) := [(10, 303, -1, 1203), (0, 39, 100, 1211)]
theorem kL_ok : kL.all (fun e => decide (lw_tbl[e.2.2.2]? = some (.constantLong (cN e.1) e.2.1 e.2.2.1))) = true := by decide +kernel
def sTx : List String := ["table", "person", "name", "fast", "unsure", "heard", "bowl", "starve", "flinch", "plain", "poet", "child", "hunge\x72", "need", "from", "worth", "day"]
def sLen : List Nat := [5, 6, 4, 4, 6, 5, 4, 6, 6, 5, 4, 5, 6, 4, 4, 5, 3]
def sByt : List (List Int32) := [[116, 97, 98, 108, 101], [112, 101, 114, 115, 111, 110], [110, 97, 109, 101], [102, 97, 115, 116], [117, 110, 115, 117, 114, 101], [104, 101, 97, 114, 100], [98, 111, 119, 108], [115, 116, 97, 114, 118, 101], [102, 108, 105, 110, 99, 104], [112, 108, 97, 105, 110], [112, 111, 101, 116], [99, 104, 105, 108, 100], [104, 117, 110, 103, 101, 114], [110, 101, 101, 100], [102, 114, 111, 109], [119, 111, 114, 116, 104], [100, 97, 121]]
def sT : List (Nat × Nat × Nat × Nat) := [(8, 223, 0, 633), (8, 225, 1, 686), (8, 227, 2, 687), (8, 229, 3, 688), (8, 231, 4, 689), (8, 232, 5, 690), (8, 121, 6, 702), (8, 132, 7, 711), (8, 136, 8, 712), (8, 217, 9, 733), (8, 219, 10, 734), (8, 221, 11, 735), (8, 150, 12, 736), (8, 154, 13, 737), (8, 158, 14, 742), (8, 162, 15, 747), (8, 170, 16, 756), (11, 122, 0, 1549), (11, 205, 6, 1564), (11, 211, 7, 1589), (11, 213, 8, 1590), (11, 124, 1, 1591), (11, 126, 2, 1608), (11, 128, 3, 1609), (11, 130, 4, 1610), (11, 132, 5, 1611), (11, 219, 9, 1616), (11, 221, 10, 1617), (11, 223, 11, 1618), (11, 225, 12, 1619), (11, 227, 13, 1620), (11, 229, 14, 1625), (11, 231, 15, 1626), (11, 236, 16, 1639)]
theorem sT_ok : sT.all (fun e => decide (lw_tbl[e.2.2.2]? = some (.stringRef (cN e.1) e.2.1 (sTx.getD e.2.2.1 "")))) = true := by decide +kernel
theorem uX0 : GoodIn lw_tbl (u_ws RX0 TX0 4) := goodIn_r _ [372, 374, 376, 378] (by decide +kernel) (by decide +kernel)
theorem uX1 : GoodIn lw_tbl (u_ws RX1 TX1 6) := goodIn_r _ [272, 274, 276, 278, 280, 282] (by decide +kernel) (by decide +kernel)
theorem uX2 : GoodIn lw_tbl (u_ws RX2 TX2 7) := goodIn_r _ [306, 308, 310, 312, 314, 316, 318] (by decide +kernel) (by decide +kernel)
theorem uX3 : GoodIn lw_tbl (u_ws RX3 TX3 7) := goodIn_r _ [341, 343, 345, 347, 349, 351, 353] (by decide +kernel) (by decide +kernel)
theorem uX4 : GoodIn lw_tbl (u_ws RX4 TX4 3) := goodIn_r _ [394, 396, 398] (by decide +kernel) (by decide +kernel)
theorem uX5 : GoodIn lw_tbl (u_ws RX5 TX5 2) := goodIn_r _ [412, 414] (by decide +kernel) (by decide +kernel)
theorem uX6 : GoodIn lw_tbl (u_ws RX6 TX6 4) := goodIn_r _ [251, 253, 255, 257] (by decide +kernel) (by decide +kernel)
theorem uX7 : GoodIn lw_tbl (u_ws RX7 TX7 7) := goodIn_r _ [219, 221, 223, 225, 227, 229, 231] (by decide +kernel) (by decide +kernel)
theorem uX8 : GoodIn lw_tbl (u_ws RX8 TX8 15) := goodIn_r _ [155, 157, 159, 161, 163, 165, 167, 169, 171, 173, 175, 177, 179, 181, 183] (by decide +kernel) (by decide +kernel)
theorem uX9 : GoodIn lw_tbl (u_ws RX9 TX9 19) := goodIn_r _ [497, 499, 501, 503, 505, 507, 509, 511, 513, 515, 517, 519, 521, 523, 525, 527, 529, 531, 533] (by decide +kernel) (by decide +kernel)
theorem uX10 : GoodIn lw_tbl (u_ws RX10 TX10 13) := goodIn_r _ [549, 551, 553, 555, 557, 559, 561, 563, 565, 567, 569, 571, 573] (by decide +kernel) (by decide +kernel)
theorem uX11 : GoodIn lw_tbl (u_ws RX11 TX11 44) := goodIn_r _ [1419, 1421, 1423, 1425, 1427, 1429, 1431, 1433, 1435, 1437, 1439, 1441, 1443, 1445, 1447, 1449, 1451, 1453, 1455, 1457, 1459, 1461, 1463, 1465, 1467, 1469, 1471, 1473, 1475, 1477, 1479, 1481, 1483, 1485, 1487, 1489, 1491, 1493, 1495, 1497, 1499, 1501, 1503, 1505] (by decide +kernel) (by decide +kernel)
def tyC (ci : Nat) : Nat → FieldType := match ci with
  | 0 => tyX0
  | 1 => tyX1
  | 2 => tyX2
  | 3 => tyX3
  | 4 => tyX4
  | 5 => tyX5
  | 6 => tyX6
  | 7 => tyX7
  | 8 => tyX8
  | 9 => tyX9
  | 10 => tyX10
  | 11 => tyX11
  | _ => tyX0
def gtbl : List Cond := lw_tbl.filter goodWord
theorem gt_of {i : Nat} {w : Cond} (h : lw_tbl[i]? = some w) (g : goodWord w = true) : w ∈ gtbl := List.mem_filter.mpr ⟨List.mem_of_getElem? h, g⟩
theorem gt_in {w : Cond} (h : w ∈ gtbl) : w ∈ lw_tbl := (List.mem_filter.mp h).1
theorem gt_good {w : Cond} (h : w ∈ gtbl) : goodWord w = true := (List.mem_filter.mp h).2
theorem gt_u {ws : List Cond} (h : GoodIn lw_tbl ws) (hg : ws.all goodWord = true) : ∀ w ∈ ws, w ∈ gtbl := fun w hw => List.mem_filter.mpr ⟨(h w hw).1, List.all_eq_true.mp hg w hw⟩
theorem vX0 : ∀ w ∈ u_ws RX0 TX0 4, w ∈ gtbl := gt_u uX0 (by decide +kernel)
theorem vX1 : ∀ w ∈ u_ws RX1 TX1 6, w ∈ gtbl := gt_u uX1 (by decide +kernel)
theorem vX2 : ∀ w ∈ u_ws RX2 TX2 7, w ∈ gtbl := gt_u uX2 (by decide +kernel)
theorem vX3 : ∀ w ∈ u_ws RX3 TX3 7, w ∈ gtbl := gt_u uX3 (by decide +kernel)
theorem vX4 : ∀ w ∈ u_ws RX4 TX4 3, w ∈ gtbl := gt_u uX4 (by decide +kernel)
theorem vX5 : ∀ w ∈ u_ws RX5 TX5 2, w ∈ gtbl := gt_u uX5 (by decide +kernel)
theorem vX6 : ∀ w ∈ u_ws RX6 TX6 4, w ∈ gtbl := gt_u uX6 (by decide +kernel)
theorem vX7 : ∀ w ∈ u_ws RX7 TX7 7, w ∈ gtbl := gt_u uX7 (by decide +kernel)
theorem vX8 : ∀ w ∈ u_ws RX8 TX8 15, w ∈ gtbl := gt_u uX8 (by decide +kernel)
theorem vX9 : ∀ w ∈ u_ws RX9 TX9 19, w ∈ gtbl := gt_u uX9 (by decide +kernel)
theorem vX10 : ∀ w ∈ u_ws RX10 TX10 13, w ∈ gtbl := gt_u uX10 (by decide +kernel)
theorem vX11 : ∀ w ∈ u_ws RX11 TX11 44, w ∈ gtbl := gt_u uX11 (by decide +kernel)
theorem cls_ok (ci : Nat) (q : vw_C) (h : vwCl[ci]? = some q) : (∀ w ∈ u_ws q.1 q.2.1 q.2.2, w ∈ gtbl) ∧ (∀ k, k < q.2.2 → parseFieldDescriptor (q.2.1 k).2.2.1 = some (tyC ci k)) ∧ (∀ a, a < q.2.2 → ∀ b, b < q.2.2 → a ≠ b → (q.2.1 a).2.1 ≠ (q.2.1 b).2.1) ∧ q.1 = cN ci := by
  match ci, h with
  | 0, h => cases h; exact ⟨vX0, tyX0_ok, nmX0, rfl⟩
  | 1, h => cases h; exact ⟨vX1, tyX1_ok, nmX1, rfl⟩
  | 2, h => cases h; exact ⟨vX2, tyX2_ok, nmX2, rfl⟩
  | 3, h => cases h; exact ⟨vX3, tyX3_ok, nmX3, rfl⟩
  | 4, h => cases h; exact ⟨vX4, tyX4_ok, nmX4, rfl⟩
  | 5, h => cases h; exact ⟨vX5, tyX5_ok, nmX5, rfl⟩
  | 6, h => cases h; exact ⟨vX6, tyX6_ok, nmX6, rfl⟩
  | 7, h => cases h; exact ⟨vX7, tyX7_ok, nmX7, rfl⟩
  | 8, h => cases h; exact ⟨vX8, tyX8_ok, nmX8, rfl⟩
  | 9, h => cases h; exact ⟨vX9, tyX9_ok, nmX9, rfl⟩
  | 10, h => cases h; exact ⟨vX10, tyX10_ok, nmX10, rfl⟩
  | 11, h => cases h; exact ⟨vX11, tyX11_ok, nmX11, rfl⟩
  | n + 12, h => simp at h
theorem lw_seg_0 {w : Cond} (h : w ∈ tables_1_1) : w ∈ lw_tbl := List.mem_append_right _ (List.mem_append_left _ h)
theorem lw_seg_1 {w : Cond} (h : w ∈ tables_1_2) : w ∈ lw_tbl := List.mem_append_right _ (List.mem_append_right _ (List.mem_append_left _ h))
theorem lw_seg_2 {w : Cond} (h : w ∈ tables_1_3) : w ∈ lw_tbl := List.mem_append_right _ (List.mem_append_right _ (List.mem_append_right _ (List.mem_append_left _ h)))
theorem lw_seg_3 {w : Cond} (h : w ∈ tables_1_4) : w ∈ lw_tbl := List.mem_append_right _ (List.mem_append_right _ (List.mem_append_right _ (List.mem_append_right _ (List.mem_append_left _ h))))
theorem lw_seg_4 {w : Cond} (h : w ∈ tables_1_5) : w ∈ lw_tbl := List.mem_append_right _ (List.mem_append_right _ (List.mem_append_right _ (List.mem_append_right _ (List.mem_append_right _ (List.mem_append_left _ h)))))
theorem lw_seg_5 {w : Cond} (h : w ∈ tables_1_6) : w ∈ lw_tbl := List.mem_append_right _ (List.mem_append_right _ (List.mem_append_right _ (List.mem_append_right _ (List.mem_append_right _ (List.mem_append_right _ (List.mem_append_left _ h))))))
theorem lw_seg_6 {w : Cond} (h : w ∈ tables_1_7) : w ∈ lw_tbl := List.mem_append_right _ (List.mem_append_right _ (List.mem_append_right _ (List.mem_append_right _ (List.mem_append_right _ (List.mem_append_right _ (List.mem_append_right _ (List.mem_append_left _ h)))))))
theorem lw_seg_7 {w : Cond} (h : w ∈ tables_1_8) : w ∈ lw_tbl := List.mem_append_right _ (List.mem_append_right _ (List.mem_append_right _ (List.mem_append_right _ (List.mem_append_right _ (List.mem_append_right _ (List.mem_append_right _ (List.mem_append_right _ (List.mem_append_left _ h))))))))
theorem lw_seg_8 {w : Cond} (h : w ∈ tables_1_9) : w ∈ lw_tbl := List.mem_append_right _ (List.mem_append_right _ (List.mem_append_right _ (List.mem_append_right _ (List.mem_append_right _ (List.mem_append_right _ (List.mem_append_right _ (List.mem_append_right _ (List.mem_append_right _ (h)))))))))
theorem cw_seg {l : List Mt} {ps : List Nat} {t : List Cond} (h : l.map cw = ps.filterMap (fun i => t[i]?)) (ht : ∀ w ∈ t, w ∈ lw_tbl) : ∀ M ∈ l, cw M ∈ gtbl := by
  intro M hM
  have h1 : cw M ∈ l.map cw := List.mem_map.mpr ⟨M, hM, rfl⟩
  rw [h] at h1
  obtain ⟨i, -, hi⟩ := List.mem_filterMap.mp h1
  exact List.mem_filter.mpr ⟨ht _ (List.mem_of_getElem? hi), rfl⟩
theorem cw_ok : ∀ M ∈ MT, cw M ∈ gtbl := by
  unfold MT
  exact List.forall_mem_append.mpr ⟨cw_seg MT_0_in (fun _ h => lw_seg_0 h), List.forall_mem_append.mpr ⟨cw_seg MT_1_in (fun _ h => lw_seg_1 h), List.forall_mem_append.mpr ⟨cw_seg MT_2_in (fun _ h => lw_seg_2 h), List.forall_mem_append.mpr ⟨cw_seg MT_3_in (fun _ h => lw_seg_3 h), List.forall_mem_append.mpr ⟨cw_seg MT_4_in (fun _ h => lw_seg_4 h), List.forall_mem_append.mpr ⟨cw_seg MT_5_in (fun _ h => lw_seg_5 h), List.forall_mem_append.mpr ⟨cw_seg MT_6_in (fun _ h => lw_seg_6 h), List.forall_mem_append.mpr ⟨cw_seg MT_7_in (fun _ h => lw_seg_7 h), cw_seg MT_8_in (fun _ h => lw_seg_8 h)⟩⟩⟩⟩⟩⟩⟩⟩
