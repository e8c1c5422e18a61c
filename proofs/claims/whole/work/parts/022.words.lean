set_option maxRecDepth 20000 in
theorem cd_X9_addText : Cond.code yX9_addText cX9_addText 2 ((Option.some Jvm.ClassFile.FieldType.int)) ∈ lw_g := lw_g_in (List.mem_of_getElem? (i := 724) (by decide +kernel)) rfl
set_option maxRecDepth 20000 in
theorem cd_X9_copyAll : Cond.code yX9_copyAll cX9_copyAll 2 ((Option.none : Option Jvm.ClassFile.FieldType)) ∈ lw_g := lw_g_in (List.mem_of_getElem? (i := 1255) (by decide +kernel)) rfl
set_option maxRecDepth 20000 in
theorem cd_X9_copyFrom : Cond.code yX9_copyFrom cX9_copyFrom 3 ((Option.none : Option Jvm.ClassFile.FieldType)) ∈ lw_g := lw_g_in (List.mem_of_getElem? (i := 1252) (by decide +kernel)) rfl
set_option maxRecDepth 20000 in
theorem cd_X9_hasBlock : Cond.code yX9_hasBlock cX9_hasBlock 2 ((Option.some Jvm.ClassFile.FieldType.boolean)) ∈ lw_g := lw_g_in (List.mem_of_getElem? (i := 752) (by decide +kernel)) rfl
set_option maxRecDepth 20000 in
theorem cd_X9_lengthOf : Cond.code yX9_lengthOf cX9_lengthOf 2 ((Option.some Jvm.ClassFile.FieldType.int)) ∈ lw_g := lw_g_in (List.mem_of_getElem? (i := 822) (by decide +kernel)) rfl
set_option maxRecDepth 20000 in
theorem cd_X9_redOf : Cond.code yX9_redOf cX9_redOf 2 ((Option.some Jvm.ClassFile.FieldType.int)) ∈ lw_g := lw_g_in (List.mem_of_getElem? (i := 785) (by decide +kernel)) rfl
set_option maxRecDepth 20000 in
theorem cd_X9_rulingText : Cond.code yX9_rulingText cX9_rulingText 1 ((Option.some (Jvm.ClassFile.FieldType.object "LongCarrier$Text"))) ∈ lw_g := lw_g_in (List.mem_of_getElem? (i := 903) (by decide +kernel)) rfl
set_option maxRecDepth 20000 in
theorem cd_X9_saidKind : Cond.code yX9_saidKind cX9_saidKind 2 ((Option.some Jvm.ClassFile.FieldType.int)) ∈ lw_g := lw_g_in (List.mem_of_getElem? (i := 1227) (by decide +kernel)) rfl
set_option maxRecDepth 20000 in
theorem cd_X9_saidLoses : Cond.code yX9_saidLoses cX9_saidLoses 2 ((Option.some Jvm.ClassFile.FieldType.int)) ∈ lw_g := lw_g_in (List.mem_of_getElem? (i := 1231) (by decide +kernel)) rfl
set_option maxRecDepth 20000 in
theorem cd_X9_sees : Cond.code yX9_sees cX9_sees 3 ((Option.some Jvm.ClassFile.FieldType.boolean)) ∈ lw_g := lw_g_in (List.mem_of_getElem? (i := 887) (by decide +kernel)) rfl
set_option maxRecDepth 20000 in
theorem cd_X9_textAt : Cond.code yX9_textAt cX9_textAt 2 ((Option.some (Jvm.ClassFile.FieldType.object "LongCarrier$Text"))) ∈ lw_g := lw_g_in (List.mem_of_getElem? (i := 907) (by decide +kernel)) rfl
set_option maxRecDepth 20000 in
theorem cd_X9_ticksForSun : Cond.code yX9_ticksForSun cX9_ticksForSun 5 ((Option.some Jvm.ClassFile.FieldType.int)) ∈ lw_g := lw_g_in (List.mem_of_getElem? (i := 1139) (by decide +kernel)) rfl
set_option maxRecDepth 20000 in
theorem cd_X9_ticksToSeen : Cond.code yX9_ticksToSeen cX9_ticksToSeen 3 ((Option.some Jvm.ClassFile.FieldType.int)) ∈ lw_g := lw_g_in (List.mem_of_getElem? (i := 1148) (by decide +kernel)) rfl
set_option maxRecDepth 20000 in
theorem cd_X11_init : Cond.code yX11_init cX11_init 1 ((Option.none : Option Jvm.ClassFile.FieldType)) ∈ lw_g := lw_g_in (List.mem_of_getElem? (i := 1266) (by decide +kernel)) rfl
set_option maxRecDepth 20000 in
theorem cd_X11_about : Cond.code yX11_about cX11_about 2 ((Option.some Jvm.ClassFile.FieldType.int)) ∈ lw_g := lw_g_in (List.mem_of_getElem? (i := 1997) (by decide +kernel)) rfl
set_option maxRecDepth 20000 in
theorem cd_X11_anew : Cond.code yX11_anew cX11_anew 1 ((Option.none : Option Jvm.ClassFile.FieldType)) ∈ lw_g := lw_g_in (List.mem_of_getElem? (i := 1700) (by decide +kernel)) rfl
set_option maxRecDepth 20000 in
theorem cd_X11_arePassed : Cond.code yX11_arePassed cX11_arePassed 3 ((Option.some Jvm.ClassFile.FieldType.boolean)) ∈ lw_g := lw_g_in (List.mem_of_getElem? (i := 1645) (by decide +kernel)) rfl
set_option maxRecDepth 20000 in
theorem cd_X11_back : Cond.code yX11_back cX11_back 1 ((Option.some Jvm.ClassFile.FieldType.int)) ∈ lw_g := lw_g_in (List.mem_of_getElem? (i := 1993) (by decide +kernel)) rfl
set_option maxRecDepth 20000 in
theorem cd_X11_beginOne : Cond.code yX11_beginOne cX11_beginOne 2 ((Option.some Jvm.ClassFile.FieldType.int)) ∈ lw_g := lw_g_in (List.mem_of_getElem? (i := 1507) (by decide +kernel)) rfl
set_option maxRecDepth 20000 in
theorem cd_X11_behindOne : Cond.code yX11_behindOne cX11_behindOne 4 ((Option.some Jvm.ClassFile.FieldType.boolean)) ∈ lw_g := lw_g_in (List.mem_of_getElem? (i := 1468) (by decide +kernel)) rfl
set_option maxRecDepth 20000 in
theorem cd_X11_betweenOf : Cond.code yX11_betweenOf cX11_betweenOf 1 ((Option.some Jvm.ClassFile.FieldType.int)) ∈ lw_g := lw_g_in (List.mem_of_getElem? (i := 1472) (by decide +kernel)) rfl
set_option maxRecDepth 20000 in
theorem cd_X11_bitsOf : Cond.code yX11_bitsOf cX11_bitsOf 3 ((Option.some Jvm.ClassFile.FieldType.int)) ∈ lw_g := lw_g_in (List.mem_of_getElem? (i := 1726) (by decide +kernel)) rfl
set_option maxRecDepth 20000 in
theorem cd_X11_block : Cond.code yX11_block cX11_block 3 ((Option.some Jvm.ClassFile.FieldType.int)) ∈ lw_g := lw_g_in (List.mem_of_getElem? (i := 1352) (by decide +kernel)) rfl
set_option maxRecDepth 20000 in
theorem cd_X11_blockClause : Cond.code yX11_blockClause cX11_blockClause 3 ((Option.some Jvm.ClassFile.FieldType.int)) ∈ lw_g := lw_g_in (List.mem_of_getElem? (i := 1448) (by decide +kernel)) rfl
set_option maxRecDepth 20000 in
theorem cd_X11_body : Cond.code yX11_body cX11_body 3 ((Option.some Jvm.ClassFile.FieldType.int)) ∈ lw_g := lw_g_in (List.mem_of_getElem? (i := 1444) (by decide +kernel)) rfl
set_option maxRecDepth 20000 in
theorem cd_X11_book : Cond.code yX11_book cX11_book 3 ((Option.some Jvm.ClassFile.FieldType.int)) ∈ lw_g := lw_g_in (List.mem_of_getElem? (i := 1860) (by decide +kernel)) rfl
set_option maxRecDepth 20000 in
theorem cd_X11_bringBack : Cond.code yX11_bringBack cX11_bringBack 2 ((Option.none : Option Jvm.ClassFile.FieldType)) ∈ lw_g := lw_g_in (List.mem_of_getElem? (i := 1880) (by decide +kernel)) rfl
set_option maxRecDepth 20000 in
theorem cd_X11_busiest : Cond.code yX11_busiest cX11_busiest 3 ((Option.some Jvm.ClassFile.FieldType.int)) ∈ lw_g := lw_g_in (List.mem_of_getElem? (i := 1977) (by decide +kernel)) rfl
set_option maxRecDepth 20000 in
theorem cd_X11_by : Cond.code yX11_by cX11_by 2 ((Option.some Jvm.ClassFile.FieldType.boolean)) ∈ lw_g := lw_g_in (List.mem_of_getElem? (i := 1535) (by decide +kernel)) rfl
set_option maxRecDepth 20000 in
theorem cd_X11_byteAt : Cond.code yX11_byteAt cX11_byteAt 2 ((Option.some Jvm.ClassFile.FieldType.int)) ∈ lw_g := lw_g_in (List.mem_of_getElem? (i := 1399) (by decide +kernel)) rfl
set_option maxRecDepth 20000 in
theorem cd_X11_bytesIn : Cond.code yX11_bytesIn cX11_bytesIn 2 ((Option.some Jvm.ClassFile.FieldType.int)) ∈ lw_g := lw_g_in (List.mem_of_getElem? (i := 1577) (by decide +kernel)) rfl
set_option maxRecDepth 20000 in
theorem cd_X11_canCancel : Cond.code yX11_canCancel cX11_canCancel 3 ((Option.some Jvm.ClassFile.FieldType.boolean)) ∈ lw_g := lw_g_in (List.mem_of_getElem? (i := 1618) (by decide +kernel)) rfl
set_option maxRecDepth 20000 in
theorem cd_X11_canOpen : Cond.code yX11_canOpen cX11_canOpen 2 ((Option.some Jvm.ClassFile.FieldType.boolean)) ∈ lw_g := lw_g_in (List.mem_of_getElem? (i := 1550) (by decide +kernel)) rfl
set_option maxRecDepth 20000 in
theorem cd_X11_cancel : Cond.code yX11_cancel cX11_cancel 3 ((Option.some Jvm.ClassFile.FieldType.boolean)) ∈ lw_g := lw_g_in (List.mem_of_getElem? (i := 1614) (by decide +kernel)) rfl
set_option maxRecDepth 20000 in
theorem cd_X11_cancelClause : Cond.code yX11_cancelClause cX11_cancelClause 3 ((Option.some Jvm.ClassFile.FieldType.int)) ∈ lw_g := lw_g_in (List.mem_of_getElem? (i := 1456) (by decide +kernel)) rfl
set_option maxRecDepth 20000 in
theorem cd_X11_cancelNow : Cond.code yX11_cancelNow cX11_cancelNow 3 ((Option.none : Option Jvm.ClassFile.FieldType)) ∈ lw_g := lw_g_in (List.mem_of_getElem? (i := 1622) (by decide +kernel)) rfl
set_option maxRecDepth 20000 in
theorem cd_X11_claims : Cond.code yX11_claims cX11_claims 4 ((Option.some Jvm.ClassFile.FieldType.int)) ∈ lw_g := lw_g_in (List.mem_of_getElem? (i := 1794) (by decide +kernel)) rfl
set_option maxRecDepth 20000 in
theorem cd_X11_clause : Cond.code yX11_clause cX11_clause 5 ((Option.some Jvm.ClassFile.FieldType.int)) ∈ lw_g := lw_g_in (List.mem_of_getElem? (i := 1414) (by decide +kernel)) rfl
set_option maxRecDepth 20000 in
theorem cd_X11_clip : Cond.code yX11_clip cX11_clip 2 ((Option.some Jvm.ClassFile.FieldType.long)) ∈ lw_g := lw_g_in (List.mem_of_getElem? (i := 1732) (by decide +kernel)) rfl
set_option maxRecDepth 20000 in
theorem cd_X11_come : Cond.code yX11_come cX11_come 4 ((Option.some Jvm.ClassFile.FieldType.int)) ∈ lw_g := lw_g_in (List.mem_of_getElem? (i := 1812) (by decide +kernel)) rfl
set_option maxRecDepth 20000 in
theorem cd_X11_compareOf : Cond.code yX11_compareOf cX11_compareOf 1 ((Option.some Jvm.ClassFile.FieldType.int)) ∈ lw_g := lw_g_in (List.mem_of_getElem? (i := 1491) (by decide +kernel)) rfl
set_option maxRecDepth 20000 in
theorem cd_X11_copy : Cond.code yX11_copy cX11_copy 3 ((Option.none : Option Jvm.ClassFile.FieldType)) ∈ lw_g := lw_g_in (List.mem_of_getElem? (i := 1270) (by decide +kernel)) rfl
set_option maxRecDepth 20000 in
theorem cd_X11_day : Cond.code yX11_day cX11_day 3 ((Option.some Jvm.ClassFile.FieldType.int)) ∈ lw_g := lw_g_in (List.mem_of_getElem? (i := 1641) (by decide +kernel)) rfl
set_option maxRecDepth 20000 in
theorem cd_X11_delay : Cond.code yX11_delay cX11_delay 2 ((Option.some Jvm.ClassFile.FieldType.boolean)) ∈ lw_g := lw_g_in (List.mem_of_getElem? (i := 1363) (by decide +kernel)) rfl
set_option maxRecDepth 20000 in
theorem cd_X11_divisor : Cond.code yX11_divisor cX11_divisor 10 ((Option.some Jvm.ClassFile.FieldType.long)) ∈ lw_g := lw_g_in (List.mem_of_getElem? (i := 1905) (by decide +kernel)) rfl
set_option maxRecDepth 20000 in
theorem cd_X11_drawnBy : Cond.code yX11_drawnBy cX11_drawnBy 3 ((Option.some Jvm.ClassFile.FieldType.int)) ∈ lw_g := lw_g_in (List.mem_of_getElem? (i := 1696) (by decide +kernel)) rfl
set_option maxRecDepth 20000 in
theorem cd_X11_dropAll : Cond.code yX11_dropAll cX11_dropAll 7 ((Option.none : Option Jvm.ClassFile.FieldType)) ∈ lw_g := lw_g_in (List.mem_of_getElem? (i := 1626) (by decide +kernel)) rfl
set_option maxRecDepth 20000 in
theorem cd_X11_dropChecks : Cond.code yX11_dropChecks cX11_dropChecks 3 ((Option.none : Option Jvm.ClassFile.FieldType)) ∈ lw_g := lw_g_in (List.mem_of_getElem? (i := 1680) (by decide +kernel)) rfl
set_option maxRecDepth 20000 in
theorem cd_X11_emit : Cond.code yX11_emit cX11_emit 3 ((Option.none : Option Jvm.ClassFile.FieldType)) ∈ lw_g := lw_g_in (List.mem_of_getElem? (i := 1499) (by decide +kernel)) rfl
set_option maxRecDepth 20000 in
theorem cd_X11_end : Cond.code yX11_end cX11_end 2 ((Option.some Jvm.ClassFile.FieldType.int)) ∈ lw_g := lw_g_in (List.mem_of_getElem? (i := 1383) (by decide +kernel)) rfl
set_option maxRecDepth 20000 in
theorem cd_X11_endFrom : Cond.code yX11_endFrom cX11_endFrom 3 ((Option.some Jvm.ClassFile.FieldType.int)) ∈ lw_g := lw_g_in (List.mem_of_getElem? (i := 1595) (by decide +kernel)) rfl
set_option maxRecDepth 20000 in
theorem cd_X11_endNow : Cond.code yX11_endNow cX11_endNow 2 ((Option.none : Option Jvm.ClassFile.FieldType)) ∈ lw_g := lw_g_in (List.mem_of_getElem? (i := 1610) (by decide +kernel)) rfl
set_option maxRecDepth 20000 in
theorem cd_X11_endsBy : Cond.code yX11_endsBy cX11_endsBy 4 ((Option.some Jvm.ClassFile.FieldType.int)) ∈ lw_g := lw_g_in (List.mem_of_getElem? (i := 1888) (by decide +kernel)) rfl
set_option maxRecDepth 20000 in
theorem cd_X11_fault : Cond.code yX11_fault cX11_fault 2 ((Option.some Jvm.ClassFile.FieldType.int)) ∈ lw_g := lw_g_in (List.mem_of_getElem? (i := 1531) (by decide +kernel)) rfl
set_option maxRecDepth 20000 in
theorem cd_X11_feed : Cond.code yX11_feed cX11_feed 6 ((Option.some Jvm.ClassFile.FieldType.int)) ∈ lw_g := lw_g_in (List.mem_of_getElem? (i := 1375) (by decide +kernel)) rfl
set_option maxRecDepth 20000 in
theorem cd_X11_figure : Cond.code yX11_figure cX11_figure 4 ((Option.some Jvm.ClassFile.FieldType.int)) ∈ lw_g := lw_g_in (List.mem_of_getElem? (i := 1452) (by decide +kernel)) rfl
set_option maxRecDepth 20000 in
theorem cd_X11_firstFrom : Cond.code yX11_firstFrom cX11_firstFrom 3 ((Option.some Jvm.ClassFile.FieldType.int)) ∈ lw_g := lw_g_in (List.mem_of_getElem? (i := 1588) (by decide +kernel)) rfl
set_option maxRecDepth 20000 in
theorem cd_X11_flight : Cond.code yX11_flight cX11_flight 3 ((Option.some Jvm.ClassFile.FieldType.int)) ∈ lw_g := lw_g_in (List.mem_of_getElem? (i := 1820) (by decide +kernel)) rfl
set_option maxRecDepth 20000 in
theorem cd_X11_flightAt : Cond.code yX11_flightAt cX11_flightAt 1 ((Option.some Jvm.ClassFile.FieldType.int)) ∈ lw_g := lw_g_in (List.mem_of_getElem? (i := 1652) (by decide +kernel)) rfl
set_option maxRecDepth 20000 in
theorem cd_X11_fly : Cond.code yX11_fly cX11_fly 5 ((Option.none : Option Jvm.ClassFile.FieldType)) ∈ lw_g := lw_g_in (List.mem_of_getElem? (i := 1747) (by decide +kernel)) rfl
set_option maxRecDepth 20000 in
theorem cd_X11_foretold : Cond.code yX11_foretold cX11_foretold 5 ((Option.some Jvm.ClassFile.FieldType.int)) ∈ lw_g := lw_g_in (List.mem_of_getElem? (i := 1872) (by decide +kernel)) rfl
set_option maxRecDepth 20000 in
theorem cd_X11_four : Cond.code yX11_four cX11_four 3 ((Option.none : Option Jvm.ClassFile.FieldType)) ∈ lw_g := lw_g_in (List.mem_of_getElem? (i := 1379) (by decide +kernel)) rfl
set_option maxRecDepth 20000 in
theorem cd_X11_gaps : Cond.code yX11_gaps cX11_gaps 4 ((Option.some Jvm.ClassFile.FieldType.int)) ∈ lw_g := lw_g_in (List.mem_of_getElem? (i := 1808) (by decide +kernel)) rfl
set_option maxRecDepth 20000 in
theorem cd_X11_got : Cond.code yX11_got cX11_got 10 ((Option.none : Option Jvm.ClassFile.FieldType)) ∈ lw_g := lw_g_in (List.mem_of_getElem? (i := 1656) (by decide +kernel)) rfl
set_option maxRecDepth 20000 in
theorem cd_X11_gotCancelling : Cond.code yX11_gotCancelling cX11_gotCancelling 3 ((Option.none : Option Jvm.ClassFile.FieldType)) ∈ lw_g := lw_g_in (List.mem_of_getElem? (i := 1684) (by decide +kernel)) rfl
set_option maxRecDepth 20000 in
theorem cd_X11_gotData : Cond.code yX11_gotData cX11_gotData 5 ((Option.none : Option Jvm.ClassFile.FieldType)) ∈ lw_g := lw_g_in (List.mem_of_getElem? (i := 1664) (by decide +kernel)) rfl
set_option maxRecDepth 20000 in
theorem cd_X11_gotReport : Cond.code yX11_gotReport cX11_gotReport 5 ((Option.none : Option Jvm.ClassFile.FieldType)) ∈ lw_g := lw_g_in (List.mem_of_getElem? (i := 1668) (by decide +kernel)) rfl
set_option maxRecDepth 20000 in
theorem cd_X11_happens : Cond.code yX11_happens cX11_happens 3 ((Option.none : Option Jvm.ClassFile.FieldType)) ∈ lw_g := lw_g_in (List.mem_of_getElem? (i := 1782) (by decide +kernel)) rfl
set_option maxRecDepth 20000 in
theorem cd_X11_has : Cond.code yX11_has cX11_has 2 ((Option.some Jvm.ClassFile.FieldType.boolean)) ∈ lw_g := lw_g_in (List.mem_of_getElem? (i := 1440) (by decide +kernel)) rfl
set_option maxRecDepth 20000 in
theorem cd_X11_held : Cond.code yX11_held cX11_held 4 ((Option.some Jvm.ClassFile.FieldType.int)) ∈ lw_g := lw_g_in (List.mem_of_getElem? (i := 1743) (by decide +kernel)) rfl
set_option maxRecDepth 20000 in
theorem cd_X11_honest : Cond.code yX11_honest cX11_honest 2 ((Option.some Jvm.ClassFile.FieldType.boolean)) ∈ lw_g := lw_g_in (List.mem_of_getElem? (i := 1985) (by decide +kernel)) rfl
set_option maxRecDepth 20000 in
theorem cd_X11_howAt : Cond.code yX11_howAt cX11_howAt 3 ((Option.some Jvm.ClassFile.FieldType.int)) ∈ lw_g := lw_g_in (List.mem_of_getElem? (i := 1558) (by decide +kernel)) rfl
set_option maxRecDepth 20000 in
theorem cd_X11_ideal : Cond.code yX11_ideal cX11_ideal 3 ((Option.some Jvm.ClassFile.FieldType.int)) ∈ lw_g := lw_g_in (List.mem_of_getElem? (i := 1892) (by decide +kernel)) rfl
set_option maxRecDepth 20000 in
theorem cd_X11_idle : Cond.code yX11_idle cX11_idle 1 ((Option.some Jvm.ClassFile.FieldType.boolean)) ∈ lw_g := lw_g_in (List.mem_of_getElem? (i := 1913) (by decide +kernel)) rfl
set_option maxRecDepth 20000 in
theorem cd_X11_image : Cond.code yX11_image cX11_image 1 ((Option.some Jvm.ClassFile.FieldType.int)) ∈ lw_g := lw_g_in (List.mem_of_getElem? (i := 1989) (by decide +kernel)) rfl
set_option maxRecDepth 20000 in
theorem cd_X11_is : Cond.code yX11_is cX11_is 2 ((Option.some Jvm.ClassFile.FieldType.int)) ∈ lw_g := lw_g_in (List.mem_of_getElem? (i := 1828) (by decide +kernel)) rfl
set_option maxRecDepth 20000 in
theorem cd_X11_isAll : Cond.code yX11_isAll cX11_isAll 2 ((Option.some Jvm.ClassFile.FieldType.boolean)) ∈ lw_g := lw_g_in (List.mem_of_getElem? (i := 1672) (by decide +kernel)) rfl
set_option maxRecDepth 20000 in
theorem cd_X11_isAskAhead : Cond.code yX11_isAskAhead cX11_isAskAhead 1 ((Option.some Jvm.ClassFile.FieldType.boolean)) ∈ lw_g := lw_g_in (List.mem_of_getElem? (i := 1527) (by decide +kernel)) rfl
set_option maxRecDepth 20000 in
theorem cd_X11_isAsked : Cond.code yX11_isAsked cX11_isAsked 5 ((Option.some Jvm.ClassFile.FieldType.boolean)) ∈ lw_g := lw_g_in (List.mem_of_getElem? (i := 1737) (by decide +kernel)) rfl
set_option maxRecDepth 20000 in
theorem cd_X11_isBits : Cond.code yX11_isBits cX11_isBits 1 ((Option.some Jvm.ClassFile.FieldType.boolean)) ∈ lw_g := lw_g_in (List.mem_of_getElem? (i := 1924) (by decide +kernel)) rfl
set_option maxRecDepth 20000 in
theorem cd_X11_isBlock : Cond.code yX11_isBlock cX11_isBlock 2 ((Option.some Jvm.ClassFile.FieldType.boolean)) ∈ lw_g := lw_g_in (List.mem_of_getElem? (i := 1554) (by decide +kernel)) rfl
set_option maxRecDepth 20000 in
theorem cd_X11_isClaimedWord : Cond.code yX11_isClaimedWord cX11_isClaimedWord 1 ((Option.some Jvm.ClassFile.FieldType.boolean)) ∈ lw_g := lw_g_in (List.mem_of_getElem? (i := 1523) (by decide +kernel)) rfl
set_option maxRecDepth 20000 in
theorem cd_X11_isCompared : Cond.code yX11_isCompared cX11_isCompared 2 ((Option.some Jvm.ClassFile.FieldType.boolean)) ∈ lw_g := lw_g_in (List.mem_of_getElem? (i := 1484) (by decide +kernel)) rfl
set_option maxRecDepth 20000 in
theorem cd_X11_isFigure : Cond.code yX11_isFigure cX11_isFigure 1 ((Option.some Jvm.ClassFile.FieldType.boolean)) ∈ lw_g := lw_g_in (List.mem_of_getElem? (i := 1402) (by decide +kernel)) rfl
set_option maxRecDepth 20000 in
theorem cd_X11_isIn : Cond.code yX11_isIn cX11_isIn 3 ((Option.some Jvm.ClassFile.FieldType.boolean)) ∈ lw_g := lw_g_in (List.mem_of_getElem? (i := 1355) (by decide +kernel)) rfl
set_option maxRecDepth 20000 in
theorem cd_X11_isLetterByte : Cond.code yX11_isLetterByte cX11_isLetterByte 1 ((Option.some Jvm.ClassFile.FieldType.boolean)) ∈ lw_g := lw_g_in (List.mem_of_getElem? (i := 1406) (by decide +kernel)) rfl
set_option maxRecDepth 20000 in
theorem cd_X11_isOf : Cond.code yX11_isOf cX11_isOf 2 ((Option.some Jvm.ClassFile.FieldType.boolean)) ∈ lw_g := lw_g_in (List.mem_of_getElem? (i := 1515) (by decide +kernel)) rfl
set_option maxRecDepth 20000 in
theorem cd_X11_isPlayed : Cond.code yX11_isPlayed cX11_isPlayed 4 ((Option.some Jvm.ClassFile.FieldType.boolean)) ∈ lw_g := lw_g_in (List.mem_of_getElem? (i := 1771) (by decide +kernel)) rfl
set_option maxRecDepth 20000 in
theorem cd_X11_isSeenAt : Cond.code yX11_isSeenAt cX11_isSeenAt 2 ((Option.some Jvm.ClassFile.FieldType.boolean)) ∈ lw_g := lw_g_in (List.mem_of_getElem? (i := 1688) (by decide +kernel)) rfl
set_option maxRecDepth 20000 in
theorem cd_X11_isSign : Cond.code yX11_isSign cX11_isSign 1 ((Option.some Jvm.ClassFile.FieldType.boolean)) ∈ lw_g := lw_g_in (List.mem_of_getElem? (i := 1410) (by decide +kernel)) rfl
set_option maxRecDepth 20000 in
theorem cd_X11_isWord : Cond.code yX11_isWord cX11_isWord 3 ((Option.some Jvm.ClassFile.FieldType.boolean)) ∈ lw_g := lw_g_in (List.mem_of_getElem? (i := 1434) (by decide +kernel)) rfl
set_option maxRecDepth 20000 in
theorem cd_X11_join : Cond.code yX11_join cX11_join 3 ((Option.some Jvm.ClassFile.FieldType.int)) ∈ lw_g := lw_g_in (List.mem_of_getElem? (i := 1937) (by decide +kernel)) rfl
set_option maxRecDepth 20000 in
theorem cd_X11_joined : Cond.code yX11_joined cX11_joined 3 ((Option.some Jvm.ClassFile.FieldType.boolean)) ∈ lw_g := lw_g_in (List.mem_of_getElem? (i := 1740) (by decide +kernel)) rfl
set_option maxRecDepth 20000 in
theorem cd_X11_keep : Cond.code yX11_keep cX11_keep 3 ((Option.none : Option Jvm.ClassFile.FieldType)) ∈ lw_g := lw_g_in (List.mem_of_getElem? (i := 1562) (by decide +kernel)) rfl
set_option maxRecDepth 20000 in
theorem cd_X11_lawClause : Cond.code yX11_lawClause cX11_lawClause 3 ((Option.some Jvm.ClassFile.FieldType.int)) ∈ lw_g := lw_g_in (List.mem_of_getElem? (i := 1460) (by decide +kernel)) rfl
set_option maxRecDepth 20000 in
theorem cd_X11_ledger : Cond.code yX11_ledger cX11_ledger 4 ((Option.some Jvm.ClassFile.FieldType.int)) ∈ lw_g := lw_g_in (List.mem_of_getElem? (i := 1868) (by decide +kernel)) rfl
set_option maxRecDepth 20000 in
theorem cd_X11_less : Cond.code yX11_less cX11_less 3 ((Option.some Jvm.ClassFile.FieldType.int)) ∈ lw_g := lw_g_in (List.mem_of_getElem? (i := 1941) (by decide +kernel)) rfl
set_option maxRecDepth 20000 in
theorem cd_X11_lineOf : Cond.code yX11_lineOf cX11_lineOf 4 ((Option.some Jvm.ClassFile.FieldType.int)) ∈ lw_g := lw_g_in (List.mem_of_getElem? (i := 1864) (by decide +kernel)) rfl
set_option maxRecDepth 20000 in
theorem cd_X11_live : Cond.code yX11_live cX11_live 3 ((Option.some Jvm.ClassFile.FieldType.int)) ∈ lw_g := lw_g_in (List.mem_of_getElem? (i := 1917) (by decide +kernel)) rfl
set_option maxRecDepth 20000 in
theorem cd_X11_longest : Cond.code yX11_longest cX11_longest 4 ((Option.some Jvm.ClassFile.FieldType.int)) ∈ lw_g := lw_g_in (List.mem_of_getElem? (i := 1945) (by decide +kernel)) rfl
set_option maxRecDepth 20000 in
theorem cd_X11_loses : Cond.code yX11_loses cX11_loses 3 ((Option.some Jvm.ClassFile.FieldType.int)) ∈ lw_g := lw_g_in (List.mem_of_getElem? (i := 1965) (by decide +kernel)) rfl
set_option maxRecDepth 20000 in
theorem cd_X11_losesBy : Cond.code yX11_losesBy cX11_losesBy 5 ((Option.some Jvm.ClassFile.FieldType.int)) ∈ lw_g := lw_g_in (List.mem_of_getElem? (i := 1707) (by decide +kernel)) rfl
set_option maxRecDepth 20000 in
theorem cd_X11_messagesOf : Cond.code yX11_messagesOf cX11_messagesOf 5 ((Option.some Jvm.ClassFile.FieldType.int)) ∈ lw_g := lw_g_in (List.mem_of_getElem? (i := 1981) (by decide +kernel)) rfl
set_option maxRecDepth 20000 in
theorem cd_X11_missingOf : Cond.code yX11_missingOf cX11_missingOf 2 ((Option.some Jvm.ClassFile.FieldType.int)) ∈ lw_g := lw_g_in (List.mem_of_getElem? (i := 1676) (by decide +kernel)) rfl
set_option maxRecDepth 20000 in
theorem cd_X11_name : Cond.code yX11_name cX11_name 3 ((Option.none : Option Jvm.ClassFile.FieldType)) ∈ lw_g := lw_g_in (List.mem_of_getElem? (i := 1711) (by decide +kernel)) rfl
set_option maxRecDepth 20000 in
theorem cd_X11_nameOf : Cond.code yX11_nameOf cX11_nameOf 1 ((Option.some Jvm.ClassFile.FieldType.int)) ∈ lw_g := lw_g_in (List.mem_of_getElem? (i := 1511) (by decide +kernel)) rfl
set_option maxRecDepth 20000 in
theorem cd_X11_next : Cond.code yX11_next cX11_next 2 ((Option.some Jvm.ClassFile.FieldType.int)) ∈ lw_g := lw_g_in (List.mem_of_getElem? (i := 1844) (by decide +kernel)) rfl
set_option maxRecDepth 20000 in
theorem cd_X11_nextToken : Cond.code yX11_nextToken cX11_nextToken 2 ((Option.none : Option Jvm.ClassFile.FieldType)) ∈ lw_g := lw_g_in (List.mem_of_getElem? (i := 1395) (by decide +kernel)) rfl
set_option maxRecDepth 20000 in
theorem cd_X11_odds : Cond.code yX11_odds cX11_odds 10 ((Option.some Jvm.ClassFile.FieldType.long)) ∈ lw_g := lw_g_in (List.mem_of_getElem? (i := 1900) (by decide +kernel)) rfl
set_option maxRecDepth 20000 in
theorem cd_X11_of : Cond.code yX11_of cX11_of 3 ((Option.some Jvm.ClassFile.FieldType.int)) ∈ lw_g := lw_g_in (List.mem_of_getElem? (i := 1786) (by decide +kernel)) rfl
set_option maxRecDepth 20000 in
theorem cd_X11_ofOne : Cond.code yX11_ofOne cX11_ofOne 4 ((Option.some Jvm.ClassFile.FieldType.long)) ∈ lw_g := lw_g_in (List.mem_of_getElem? (i := 1723) (by decide +kernel)) rfl
set_option maxRecDepth 20000 in
theorem cd_X11_open : Cond.code yX11_open cX11_open 2 ((Option.some Jvm.ClassFile.FieldType.int)) ∈ lw_g := lw_g_in (List.mem_of_getElem? (i := 1546) (by decide +kernel)) rfl
set_option maxRecDepth 20000 in
theorem cd_X11_openAt : Cond.code yX11_openAt cX11_openAt 2 ((Option.some Jvm.ClassFile.FieldType.int)) ∈ lw_g := lw_g_in (List.mem_of_getElem? (i := 1480) (by decide +kernel)) rfl
set_option maxRecDepth 20000 in
theorem cd_X11_openNow : Cond.code yX11_openNow cX11_openNow 1 ((Option.some Jvm.ClassFile.FieldType.int)) ∈ lw_g := lw_g_in (List.mem_of_getElem? (i := 1476) (by decide +kernel)) rfl
set_option maxRecDepth 20000 in
theorem cd_X11_openNow_ : Cond.code yX11_openNow_ cX11_openNow_ 6 ((Option.some Jvm.ClassFile.FieldType.int)) ∈ lw_g := lw_g_in (List.mem_of_getElem? (i := 1566) (by decide +kernel)) rfl
set_option maxRecDepth 20000 in
theorem cd_X11_opened : Cond.code yX11_opened cX11_opened 2 ((Option.some Jvm.ClassFile.FieldType.int)) ∈ lw_g := lw_g_in (List.mem_of_getElem? (i := 1519) (by decide +kernel)) rfl
set_option maxRecDepth 20000 in
theorem cd_X11_out : Cond.code yX11_out cX11_out 4 ((Option.some Jvm.ClassFile.FieldType.int)) ∈ lw_g := lw_g_in (List.mem_of_getElem? (i := 1816) (by decide +kernel)) rfl
set_option maxRecDepth 20000 in
theorem cd_X11_outAt : Cond.code yX11_outAt cX11_outAt 2 ((Option.some Jvm.ClassFile.FieldType.int)) ∈ lw_g := lw_g_in (List.mem_of_getElem? (i := 1606) (by decide +kernel)) rfl
set_option maxRecDepth 20000 in
theorem cd_X11_partOf : Cond.code yX11_partOf cX11_partOf 2 ((Option.some Jvm.ClassFile.FieldType.int)) ∈ lw_g := lw_g_in (List.mem_of_getElem? (i := 1503) (by decide +kernel)) rfl
set_option maxRecDepth 20000 in
theorem cd_X11_piece : Cond.code yX11_piece cX11_piece 4 ((Option.some Jvm.ClassFile.FieldType.int)) ∈ lw_g := lw_g_in (List.mem_of_getElem? (i := 1953) (by decide +kernel)) rfl
set_option maxRecDepth 20000 in
theorem cd_X11_pieceEnd : Cond.code yX11_pieceEnd cX11_pieceEnd 4 ((Option.some Jvm.ClassFile.FieldType.int)) ∈ lw_g := lw_g_in (List.mem_of_getElem? (i := 1592) (by decide +kernel)) rfl
set_option maxRecDepth 20000 in
theorem cd_X11_pieceOf : Cond.code yX11_pieceOf cX11_pieceOf 6 ((Option.some Jvm.ClassFile.FieldType.int)) ∈ lw_g := lw_g_in (List.mem_of_getElem? (i := 1599) (by decide +kernel)) rfl
set_option maxRecDepth 20000 in
theorem cd_X11_pieces : Cond.code yX11_pieces cX11_pieces 2 ((Option.some Jvm.ClassFile.FieldType.int)) ∈ lw_g := lw_g_in (List.mem_of_getElem? (i := 1949) (by decide +kernel)) rfl
set_option maxRecDepth 20000 in
theorem cd_X11_piecesOf : Cond.code yX11_piecesOf cX11_piecesOf 4 ((Option.some Jvm.ClassFile.FieldType.int)) ∈ lw_g := lw_g_in (List.mem_of_getElem? (i := 1585) (by decide +kernel)) rfl
set_option maxRecDepth 20000 in
theorem cd_X11_played : Cond.code yX11_played cX11_played 3 ((Option.some Jvm.ClassFile.FieldType.int)) ∈ lw_g := lw_g_in (List.mem_of_getElem? (i := 1767) (by decide +kernel)) rfl
set_option maxRecDepth 20000 in
theorem cd_X11_put : Cond.code yX11_put cX11_put 10 ((Option.some Jvm.ClassFile.FieldType.int)) ∈ lw_g := lw_g_in (List.mem_of_getElem? (i := 1603) (by decide +kernel)) rfl
set_option maxRecDepth 20000 in
theorem cd_X11_putAside : Cond.code yX11_putAside cX11_putAside 2 ((Option.none : Option Jvm.ClassFile.FieldType)) ∈ lw_g := lw_g_in (List.mem_of_getElem? (i := 1876) (by decide +kernel)) rfl
set_option maxRecDepth 20000 in
theorem cd_X11_putRed : Cond.code yX11_putRed cX11_putRed 6 ((Option.some Jvm.ClassFile.FieldType.int)) ∈ lw_g := lw_g_in (List.mem_of_getElem? (i := 1581) (by decide +kernel)) rfl
set_option maxRecDepth 20000 in
theorem cd_X11_rank : Cond.code yX11_rank cX11_rank 1 ((Option.some Jvm.ClassFile.FieldType.int)) ∈ lw_g := lw_g_in (List.mem_of_getElem? (i := 1487) (by decide +kernel)) rfl
set_option maxRecDepth 20000 in
theorem cd_X11_readText : Cond.code yX11_readText cX11_readText 2 ((Option.some Jvm.ClassFile.FieldType.int)) ∈ lw_g := lw_g_in (List.mem_of_getElem? (i := 1391) (by decide +kernel)) rfl
set_option maxRecDepth 20000 in
theorem cd_X11_redOf : Cond.code yX11_redOf cX11_redOf 2 ((Option.some Jvm.ClassFile.FieldType.int)) ∈ lw_g := lw_g_in (List.mem_of_getElem? (i := 1574) (by decide +kernel)) rfl
set_option maxRecDepth 20000 in
theorem cd_X11_resent : Cond.code yX11_resent cX11_resent 2 ((Option.some Jvm.ClassFile.FieldType.int)) ∈ lw_g := lw_g_in (List.mem_of_getElem? (i := 1909) (by decide +kernel)) rfl
set_option maxRecDepth 20000 in
theorem cd_X11_ring : Cond.code yX11_ring cX11_ring 11 ((Option.none : Option Jvm.ClassFile.FieldType)) ∈ lw_g := lw_g_in (List.mem_of_getElem? (i := 1763) (by decide +kernel)) rfl
set_option maxRecDepth 20000 in
theorem cd_X11_ringing : Cond.code yX11_ringing cX11_ringing 2 ((Option.some Jvm.ClassFile.FieldType.int)) ∈ lw_g := lw_g_in (List.mem_of_getElem? (i := 1759) (by decide +kernel)) rfl
set_option maxRecDepth 20000 in
theorem cd_X11_rings : Cond.code yX11_rings cX11_rings 2 ((Option.some Jvm.ClassFile.FieldType.int)) ∈ lw_g := lw_g_in (List.mem_of_getElem? (i := 1856) (by decide +kernel)) rfl
set_option maxRecDepth 20000 in
theorem cd_X11_round : Cond.code yX11_round cX11_round 1 ((Option.some Jvm.ClassFile.FieldType.int)) ∈ lw_g := lw_g_in (List.mem_of_getElem? (i := 1852) (by decide +kernel)) rfl
set_option maxRecDepth 20000 in
theorem cd_X11_said : Cond.code yX11_said cX11_said 3 ((Option.some Jvm.ClassFile.FieldType.int)) ∈ lw_g := lw_g_in (List.mem_of_getElem? (i := 1957) (by decide +kernel)) rfl
set_option maxRecDepth 20000 in
theorem cd_X11_says : Cond.code yX11_says cX11_says 7 ((Option.some Jvm.ClassFile.FieldType.int)) ∈ lw_g := lw_g_in (List.mem_of_getElem? (i := 1715) (by decide +kernel)) rfl
set_option maxRecDepth 20000 in
theorem cd_X11_seen : Cond.code yX11_seen cX11_seen 2 ((Option.some Jvm.ClassFile.FieldType.boolean)) ∈ lw_g := lw_g_in (List.mem_of_getElem? (i := 1832) (by decide +kernel)) rfl
set_option maxRecDepth 20000 in
theorem cd_X11_seenFrom : Cond.code yX11_seenFrom cX11_seenFrom 3 ((Option.some Jvm.ClassFile.FieldType.int)) ∈ lw_g := lw_g_in (List.mem_of_getElem? (i := 1848) (by decide +kernel)) rfl
set_option maxRecDepth 20000 in
theorem cd_X11_sendFirst : Cond.code yX11_sendFirst cX11_sendFirst 6 ((Option.none : Option Jvm.ClassFile.FieldType)) ∈ lw_g := lw_g_in (List.mem_of_getElem? (i := 1692) (by decide +kernel)) rfl
set_option maxRecDepth 20000 in
theorem cd_X11_settle : Cond.code yX11_settle cX11_settle 2 ((Option.none : Option Jvm.ClassFile.FieldType)) ∈ lw_g := lw_g_in (List.mem_of_getElem? (i := 1495) (by decide +kernel)) rfl
set_option maxRecDepth 20000 in
theorem cd_X11_size : Cond.code yX11_size cX11_size 2 ((Option.some Jvm.ClassFile.FieldType.boolean)) ∈ lw_g := lw_g_in (List.mem_of_getElem? (i := 1367) (by decide +kernel)) rfl
set_option maxRecDepth 20000 in
theorem cd_X11_soonest : Cond.code yX11_soonest cX11_soonest 3 ((Option.some Jvm.ClassFile.FieldType.int)) ∈ lw_g := lw_g_in (List.mem_of_getElem? (i := 1973) (by decide +kernel)) rfl
set_option maxRecDepth 20000 in
theorem cd_X11_sortOf : Cond.code yX11_sortOf cX11_sortOf 1 ((Option.some Jvm.ClassFile.FieldType.int)) ∈ lw_g := lw_g_in (List.mem_of_getElem? (i := 1418) (by decide +kernel)) rfl
set_option maxRecDepth 20000 in
theorem cd_X11_span : Cond.code yX11_span cX11_span 4 ((Option.some Jvm.ClassFile.FieldType.int)) ∈ lw_g := lw_g_in (List.mem_of_getElem? (i := 1929) (by decide +kernel)) rfl
set_option maxRecDepth 20000 in
theorem cd_X11_spanOf : Cond.code yX11_spanOf cX11_spanOf 5 ((Option.some Jvm.ClassFile.FieldType.int)) ∈ lw_g := lw_g_in (List.mem_of_getElem? (i := 1804) (by decide +kernel)) rfl
set_option maxRecDepth 20000 in
theorem cd_X11_spans : Cond.code yX11_spans cX11_spans 2 ((Option.some Jvm.ClassFile.FieldType.int)) ∈ lw_g := lw_g_in (List.mem_of_getElem? (i := 1921) (by decide +kernel)) rfl
set_option maxRecDepth 20000 in
theorem cd_X11_spansOf : Cond.code yX11_spansOf cX11_spansOf 3 ((Option.some Jvm.ClassFile.FieldType.int)) ∈ lw_g := lw_g_in (List.mem_of_getElem? (i := 1801) (by decide +kernel)) rfl
set_option maxRecDepth 20000 in
theorem cd_X11_startTimer : Cond.code yX11_startTimer cX11_startTimer 4 ((Option.none : Option Jvm.ClassFile.FieldType)) ∈ lw_g := lw_g_in (List.mem_of_getElem? (i := 1751) (by decide +kernel)) rfl
set_option maxRecDepth 20000 in
theorem cd_X11_stepAt : Cond.code yX11_stepAt cX11_stepAt 2 ((Option.some Jvm.ClassFile.FieldType.int)) ∈ lw_g := lw_g_in (List.mem_of_getElem? (i := 1542) (by decide +kernel)) rfl
set_option maxRecDepth 20000 in
theorem cd_X11_summed : Cond.code yX11_summed cX11_summed 2 ((Option.some Jvm.ClassFile.FieldType.int)) ∈ lw_g := lw_g_in (List.mem_of_getElem? (i := 1464) (by decide +kernel)) rfl
set_option maxRecDepth 20000 in
theorem cd_X11_summedUp : Cond.code yX11_summedUp cX11_summedUp 10 ((Option.some Jvm.ClassFile.FieldType.long)) ∈ lw_g := lw_g_in (List.mem_of_getElem? (i := 1719) (by decide +kernel)) rfl
set_option maxRecDepth 20000 in
theorem cd_X11_takeFlight : Cond.code yX11_takeFlight cX11_takeFlight 3 ((Option.none : Option Jvm.ClassFile.FieldType)) ∈ lw_g := lw_g_in (List.mem_of_getElem? (i := 1660) (by decide +kernel)) rfl
set_option maxRecDepth 20000 in
theorem cd_X11_takeOut : Cond.code yX11_takeOut cX11_takeOut 4 ((Option.none : Option Jvm.ClassFile.FieldType)) ∈ lw_g := lw_g_in (List.mem_of_getElem? (i := 1630) (by decide +kernel)) rfl
set_option maxRecDepth 20000 in
theorem cd_X11_takeTimer : Cond.code yX11_takeTimer cX11_takeTimer 3 ((Option.none : Option Jvm.ClassFile.FieldType)) ∈ lw_g := lw_g_in (List.mem_of_getElem? (i := 1637) (by decide +kernel)) rfl
set_option maxRecDepth 20000 in
theorem cd_X11_text : Cond.code yX11_text cX11_text 1 ((Option.some Jvm.ClassFile.FieldType.int)) ∈ lw_g := lw_g_in (List.mem_of_getElem? (i := 1387) (by decide +kernel)) rfl
set_option maxRecDepth 20000 in
theorem cd_X11_tick : Cond.code yX11_tick cX11_tick 3 ((Option.none : Option Jvm.ClassFile.FieldType)) ∈ lw_g := lw_g_in (List.mem_of_getElem? (i := 1649) (by decide +kernel)) rfl
set_option maxRecDepth 20000 in
theorem cd_X11_ticksTo : Cond.code yX11_ticksTo cX11_ticksTo 4 ((Option.some Jvm.ClassFile.FieldType.int)) ∈ lw_g := lw_g_in (List.mem_of_getElem? (i := 1840) (by decide +kernel)) rfl
set_option maxRecDepth 20000 in
theorem cd_X11_till : Cond.code yX11_till cX11_till 2 ((Option.some Jvm.ClassFile.FieldType.int)) ∈ lw_g := lw_g_in (List.mem_of_getElem? (i := 1884) (by decide +kernel)) rfl
set_option maxRecDepth 20000 in
theorem cd_X11_timer : Cond.code yX11_timer cX11_timer 3 ((Option.some Jvm.ClassFile.FieldType.int)) ∈ lw_g := lw_g_in (List.mem_of_getElem? (i := 1824) (by decide +kernel)) rfl
set_option maxRecDepth 20000 in
theorem cd_X11_timerAt : Cond.code yX11_timerAt cX11_timerAt 1 ((Option.some Jvm.ClassFile.FieldType.int)) ∈ lw_g := lw_g_in (List.mem_of_getElem? (i := 1633) (by decide +kernel)) rfl
set_option maxRecDepth 20000 in
theorem cd_X11_told : Cond.code yX11_told cX11_told 3 ((Option.some Jvm.ClassFile.FieldType.int)) ∈ lw_g := lw_g_in (List.mem_of_getElem? (i := 1790) (by decide +kernel)) rfl
set_option maxRecDepth 20000 in
theorem cd_X11_toldSpan : Cond.code yX11_toldSpan cX11_toldSpan 4 ((Option.some Jvm.ClassFile.FieldType.int)) ∈ lw_g := lw_g_in (List.mem_of_getElem? (i := 1798) (by decide +kernel)) rfl
set_option maxRecDepth 20000 in
theorem cd_X11_tries : Cond.code yX11_tries cX11_tries 2 ((Option.some Jvm.ClassFile.FieldType.boolean)) ∈ lw_g := lw_g_in (List.mem_of_getElem? (i := 1371) (by decide +kernel)) rfl
set_option maxRecDepth 20000 in
theorem cd_X11_two : Cond.code yX11_two cX11_two 5 ((Option.some Jvm.ClassFile.FieldType.long)) ∈ lw_g := lw_g_in (List.mem_of_getElem? (i := 1729) (by decide +kernel)) rfl
set_option maxRecDepth 20000 in
theorem cd_X11_undo : Cond.code yX11_undo cX11_undo 3 ((Option.some Jvm.ClassFile.FieldType.int)) ∈ lw_g := lw_g_in (List.mem_of_getElem? (i := 1539) (by decide +kernel)) rfl
set_option maxRecDepth 20000 in
theorem cd_X11_until : Cond.code yX11_until cX11_until 2 ((Option.some Jvm.ClassFile.FieldType.int)) ∈ lw_g := lw_g_in (List.mem_of_getElem? (i := 1836) (by decide +kernel)) rfl
set_option maxRecDepth 20000 in
theorem cd_X11_w2 : Cond.code yX11_w2 cX11_w2 2 ((Option.some Jvm.ClassFile.FieldType.long)) ∈ lw_g := lw_g_in (List.mem_of_getElem? (i := 1430) (by decide +kernel)) rfl
set_option maxRecDepth 20000 in
theorem cd_X11_w3 : Cond.code yX11_w3 cX11_w3 3 ((Option.some Jvm.ClassFile.FieldType.long)) ∈ lw_g := lw_g_in (List.mem_of_getElem? (i := 1427) (by decide +kernel)) rfl
set_option maxRecDepth 20000 in
theorem cd_X11_w4 : Cond.code yX11_w4 cX11_w4 4 ((Option.some Jvm.ClassFile.FieldType.long)) ∈ lw_g := lw_g_in (List.mem_of_getElem? (i := 1424) (by decide +kernel)) rfl
set_option maxRecDepth 20000 in
theorem cd_X11_w5 : Cond.code yX11_w5 cX11_w5 5 ((Option.some Jvm.ClassFile.FieldType.long)) ∈ lw_g := lw_g_in (List.mem_of_getElem? (i := 1421) (by decide +kernel)) rfl
set_option maxRecDepth 20000 in
theorem cd_X11_w6 : Cond.code yX11_w6 cX11_w6 6 ((Option.some Jvm.ClassFile.FieldType.long)) ∈ lw_g := lw_g_in (List.mem_of_getElem? (i := 1437) (by decide +kernel)) rfl
set_option maxRecDepth 20000 in
theorem cd_X11_waits : Cond.code yX11_waits cX11_waits 4 ((Option.some Jvm.ClassFile.FieldType.int)) ∈ lw_g := lw_g_in (List.mem_of_getElem? (i := 1969) (by decide +kernel)) rfl
set_option maxRecDepth 20000 in
theorem cd_X11_waitsBy : Cond.code yX11_waitsBy cX11_waitsBy 4 ((Option.some Jvm.ClassFile.FieldType.int)) ∈ lw_g := lw_g_in (List.mem_of_getElem? (i := 1755) (by decide +kernel)) rfl
set_option maxRecDepth 20000 in
theorem cd_X11_whole : Cond.code yX11_whole cX11_whole 2 ((Option.some Jvm.ClassFile.FieldType.boolean)) ∈ lw_g := lw_g_in (List.mem_of_getElem? (i := 1896) (by decide +kernel)) rfl
set_option maxRecDepth 20000 in
theorem cd_X11_whose : Cond.code yX11_whose cX11_whose 5 ((Option.some Jvm.ClassFile.FieldType.int)) ∈ lw_g := lw_g_in (List.mem_of_getElem? (i := 1961) (by decide +kernel)) rfl
set_option maxRecDepth 20000 in
theorem cd_X11_window : Cond.code yX11_window cX11_window 4 ((Option.some Jvm.ClassFile.FieldType.boolean)) ∈ lw_g := lw_g_in (List.mem_of_getElem? (i := 1359) (by decide +kernel)) rfl
set_option maxRecDepth 20000 in
theorem cd_X11_within : Cond.code yX11_within cX11_within 4 ((Option.some Jvm.ClassFile.FieldType.int)) ∈ lw_g := lw_g_in (List.mem_of_getElem? (i := 1933) (by decide +kernel)) rfl
set_option maxRecDepth 20000 in
theorem cd_X11_writeDown : Cond.code yX11_writeDown cX11_writeDown 5 ((Option.none : Option Jvm.ClassFile.FieldType)) ∈ lw_g := lw_g_in (List.mem_of_getElem? (i := 1570) (by decide +kernel)) rfl
set_option maxRecDepth 20000 in
theorem cd_X11_years : Cond.code yX11_years cX11_years 5 ((Option.some Jvm.ClassFile.FieldType.int)) ∈ lw_g := lw_g_in (List.mem_of_getElem? (i := 1778) (by decide +kernel)) rfl
set_option maxRecDepth 20000 in
theorem cd_J6_bitCount_0f7a4 : Cond.code yJ6_bitCount_0f7a4 cJ6_bitCount_0f7a4 1 ((Option.some Jvm.ClassFile.FieldType.int)) ∈ lw_g := lw_g_in (List.mem_of_getElem? (i := 932) (by decide +kernel)) rfl
set_option maxRecDepth 20000 in
theorem cd_J9_max_7cf53 : Cond.code yJ9_max_7cf53 cJ9_max_7cf53 2 ((Option.some Jvm.ClassFile.FieldType.int)) ∈ lw_g := lw_g_in (List.mem_of_getElem? (i := 241) (by decide +kernel)) rfl
set_option maxRecDepth 20000 in
theorem cd_J9_max_f86c9 : Cond.code yJ9_max_f86c9 cJ9_max_f86c9 4 ((Option.some Jvm.ClassFile.FieldType.long)) ∈ lw_g := lw_g_in (List.mem_of_getElem? (i := 951) (by decide +kernel)) rfl
set_option maxRecDepth 20000 in
theorem cd_J9_min_7cf53 : Cond.code yJ9_min_7cf53 cJ9_min_7cf53 2 ((Option.some Jvm.ClassFile.FieldType.int)) ∈ lw_g := lw_g_in (List.mem_of_getElem? (i := 530) (by decide +kernel)) rfl
set_option maxRecDepth 20000 in
theorem cd_J9_min_f86c9 : Cond.code yJ9_min_f86c9 cJ9_min_f86c9 4 ((Option.some Jvm.ClassFile.FieldType.long)) ∈ lw_g := lw_g_in (List.mem_of_getElem? (i := 948) (by decide +kernel)) rfl
set_option maxRecDepth 20000 in
theorem cd_J0_charAt_5068e : Cond.code yJ0_charAt_5068e cJ0_charAt_5068e 2 ((Option.some Jvm.ClassFile.FieldType.char)) ∈ lw_g := lw_g_in (List.mem_of_getElem? (i := 558) (by decide +kernel)) rfl
set_option maxRecDepth 20000 in
theorem cd_J0_checkIndex_df160 : Cond.code yJ0_checkIndex_df160 cJ0_checkIndex_df160 2 ((Option.none : Option Jvm.ClassFile.FieldType)) ∈ lw_g := lw_g_in (List.mem_of_getElem? (i := 568) (by decide +kernel)) rfl
set_option maxRecDepth 20000 in
theorem cd_J0_coder_7d493 : Cond.code yJ0_coder_7d493 cJ0_coder_7d493 1 ((Option.some Jvm.ClassFile.FieldType.byte)) ∈ lw_g := lw_g_in (List.mem_of_getElem? (i := 552) (by decide +kernel)) rfl
set_option maxRecDepth 20000 in
theorem cd_J0_isLatin1_aae02 : Cond.code yJ0_isLatin1_aae02 cJ0_isLatin1_aae02 1 ((Option.some Jvm.ClassFile.FieldType.boolean)) ∈ lw_g := lw_g_in (List.mem_of_getElem? (i := 562) (by decide +kernel)) rfl
set_option maxRecDepth 20000 in
theorem cd_J0_length_8abf5 : Cond.code yJ0_length_8abf5 cJ0_length_8abf5 1 ((Option.some Jvm.ClassFile.FieldType.int)) ∈ lw_g := lw_g_in (List.mem_of_getElem? (i := 548) (by decide +kernel)) rfl
set_option maxRecDepth 20000 in
theorem cd_J1_charAt_3b067 : Cond.code yJ1_charAt_3b067 cJ1_charAt_3b067 2 ((Option.some Jvm.ClassFile.FieldType.char)) ∈ lw_g := lw_g_in (List.mem_of_getElem? (i := 565) (by decide +kernel)) rfl
set_option maxRecDepth 20000 in
theorem cd_J2_charAt_3b067 : Cond.code yJ2_charAt_3b067 cJ2_charAt_3b067 2 ((Option.some Jvm.ClassFile.FieldType.char)) ∈ lw_g := lw_g_in (List.mem_of_getElem? (i := 576) (by decide +kernel)) rfl
set_option maxRecDepth 20000 in
theorem cd_J2_checkIndex_2214a : Cond.code yJ2_checkIndex_2214a cJ2_checkIndex_2214a 2 ((Option.none : Option Jvm.ClassFile.FieldType)) ∈ lw_g := lw_g_in (List.mem_of_getElem? (i := 579) (by decide +kernel)) rfl
set_option maxRecDepth 20000 in
theorem cd_J2_getChar_3b067 : Cond.code yJ2_getChar_3b067 cJ2_getChar_3b067 2 ((Option.some Jvm.ClassFile.FieldType.char)) ∈ lw_g := lw_g_in (List.mem_of_getElem? (i := 586) (by decide +kernel)) rfl
set_option maxRecDepth 20000 in
theorem cd_J2_length_9d52b : Cond.code yJ2_length_9d52b cJ2_length_9d52b 1 ((Option.some Jvm.ClassFile.FieldType.int)) ∈ lw_g := lw_g_in (List.mem_of_getElem? (i := 582) (by decide +kernel)) rfl
set_option maxRecDepth 20000 in
theorem cd_J7_copyOf_59c91 : Cond.code yJ7_copyOf_59c91 cJ7_copyOf_59c91 3 ((Option.some (Jvm.ClassFile.FieldType.array Jvm.ClassFile.FieldType.int))) ∈ lw_g := lw_g_in (List.mem_of_getElem? (i := 677) (by decide +kernel)) rfl
set_option maxRecDepth 20000 in
theorem cd_J3_checkIndex_8e157 : Cond.code yJ3_checkIndex_8e157 cJ3_checkIndex_8e157 3 ((Option.some Jvm.ClassFile.FieldType.int)) ∈ lw_g := lw_g_in (List.mem_of_getElem? (i := 573) (by decide +kernel)) rfl
set_option maxRecDepth 20000 in
theorem ci_X10_11 : CLI RX10 11 yX5_init 0 := ⟨lw_g_in (List.mem_of_getElem? (i := 154) (by decide +kernel)) rfl, lw_g_in (List.mem_of_getElem? (i := 155) (by decide +kernel)) rfl, lw_g_in (List.mem_of_getElem? (i := 125) (by decide +kernel)) rfl, by decide +kernel⟩
set_option maxRecDepth 20000 in
theorem ci_X10_31 : CLI RX10 31 yX1_init 2 := ⟨lw_g_in (List.mem_of_getElem? (i := 333) (by decide +kernel)) rfl, lw_g_in (List.mem_of_getElem? (i := 334) (by decide +kernel)) rfl, lw_g_in (List.mem_of_getElem? (i := 130) (by decide +kernel)) rfl, by decide +kernel⟩
set_option maxRecDepth 20000 in
theorem ci_X10_40 : CLI RX10 40 yX6_init 0 := ⟨lw_g_in (List.mem_of_getElem? (i := 382) (by decide +kernel)) rfl, lw_g_in (List.mem_of_getElem? (i := 230) (by decide +kernel)) rfl, lw_g_in (List.mem_of_getElem? (i := 127) (by decide +kernel)) rfl, by decide +kernel⟩
set_option maxRecDepth 20000 in
theorem ci_X10_46 : CLI RX10 46 yX3_init 0 := ⟨lw_g_in (List.mem_of_getElem? (i := 385) (by decide +kernel)) rfl, lw_g_in (List.mem_of_getElem? (i := 386) (by decide +kernel)) rfl, lw_g_in (List.mem_of_getElem? (i := 132) (by decide +kernel)) rfl, by decide +kernel⟩
set_option maxRecDepth 20000 in
theorem cv_X10_62 : CLV RX10 62 8 yX9_addBlock 2 := ⟨TX9, 15, rfl, lw_g_in (List.mem_of_getElem? (i := 484) (by decide +kernel)) rfl, lw_g_in (List.mem_of_getElem? (i := 485) (by decide +kernel)) rfl, lw_g_in (List.mem_of_getElem? (i := 486) (by decide +kernel)) rfl, lw_g_in (List.mem_of_getElem? (i := 126) (by decide +kernel)) rfl, by decide +kernel⟩
set_option maxRecDepth 20000 in
theorem cv_X10_89 : CLV RX10 89 9 yX10_feedFour 1 := ⟨TX10, 11, rfl, lw_g_in (List.mem_of_getElem? (i := 508) (by decide +kernel)) rfl, lw_g_in (List.mem_of_getElem? (i := 510) (by decide +kernel)) rfl, lw_g_in (List.mem_of_getElem? (i := 0) (by decide +kernel)) rfl, lw_g_in (List.mem_of_getElem? (i := 124) (by decide +kernel)) rfl, by decide +kernel⟩
set_option maxRecDepth 20000 in
theorem cv_X10_96 : CLV RX10 96 2 yX3_read 2 := ⟨TX3, 11, rfl, lw_g_in (List.mem_of_getElem? (i := 520) (by decide +kernel)) rfl, lw_g_in (List.mem_of_getElem? (i := 521) (by decide +kernel)) rfl, lw_g_in (List.mem_of_getElem? (i := 522) (by decide +kernel)) rfl, lw_g_in (List.mem_of_getElem? (i := 132) (by decide +kernel)) rfl, by decide +kernel⟩
set_option maxRecDepth 20000 in
theorem cv_X10_102 : CLV RX10 102 8 yX9_addText 1 := ⟨TX9, 15, rfl, lw_g_in (List.mem_of_getElem? (i := 721) (by decide +kernel)) rfl, lw_g_in (List.mem_of_getElem? (i := 722) (by decide +kernel)) rfl, lw_g_in (List.mem_of_getElem? (i := 723) (by decide +kernel)) rfl, lw_g_in (List.mem_of_getElem? (i := 126) (by decide +kernel)) rfl, by decide +kernel⟩
set_option maxRecDepth 20000 in
theorem cv_X10_112 : CLV RX10 112 8 yX9_addSaid 2 := ⟨TX9, 15, rfl, lw_g_in (List.mem_of_getElem? (i := 737) (by decide +kernel)) rfl, lw_g_in (List.mem_of_getElem? (i := 738) (by decide +kernel)) rfl, lw_g_in (List.mem_of_getElem? (i := 739) (by decide +kernel)) rfl, lw_g_in (List.mem_of_getElem? (i := 126) (by decide +kernel)) rfl, by decide +kernel⟩
set_option maxRecDepth 20000 in
theorem cv_X10_115 : CLV RX10 115 9 yX10_isNew 1 := ⟨TX10, 11, rfl, lw_g_in (List.mem_of_getElem? (i := 745) (by decide +kernel)) rfl, lw_g_in (List.mem_of_getElem? (i := 747) (by decide +kernel)) rfl, lw_g_in (List.mem_of_getElem? (i := 19) (by decide +kernel)) rfl, lw_g_in (List.mem_of_getElem? (i := 124) (by decide +kernel)) rfl, by decide +kernel⟩
set_option maxRecDepth 20000 in
theorem cv_X10_119 : CLV RX10 119 4 yX5_remember 0 := ⟨TX5, 5, rfl, lw_g_in (List.mem_of_getElem? (i := 757) (by decide +kernel)) rfl, lw_g_in (List.mem_of_getElem? (i := 758) (by decide +kernel)) rfl, lw_g_in (List.mem_of_getElem? (i := 759) (by decide +kernel)) rfl, lw_g_in (List.mem_of_getElem? (i := 125) (by decide +kernel)) rfl, by decide +kernel⟩
set_option maxRecDepth 20000 in
theorem cv_X10_122 : CLV RX10 122 0 yX1_openBlock 1 := ⟨TX1, 4, rfl, lw_g_in (List.mem_of_getElem? (i := 774) (by decide +kernel)) rfl, lw_g_in (List.mem_of_getElem? (i := 775) (by decide +kernel)) rfl, lw_g_in (List.mem_of_getElem? (i := 776) (by decide +kernel)) rfl, lw_g_in (List.mem_of_getElem? (i := 130) (by decide +kernel)) rfl, by decide +kernel⟩
set_option maxRecDepth 20000 in
theorem cv_X10_126 : CLV RX10 126 0 yX1_canCancel 2 := ⟨TX1, 4, rfl, lw_g_in (List.mem_of_getElem? (i := 848) (by decide +kernel)) rfl, lw_g_in (List.mem_of_getElem? (i := 849) (by decide +kernel)) rfl, lw_g_in (List.mem_of_getElem? (i := 850) (by decide +kernel)) rfl, lw_g_in (List.mem_of_getElem? (i := 130) (by decide +kernel)) rfl, by decide +kernel⟩
set_option maxRecDepth 20000 in
theorem cv_X10_130 : CLV RX10 130 0 yX1_cancelBy 2 := ⟨TX1, 4, rfl, lw_g_in (List.mem_of_getElem? (i := 852) (by decide +kernel)) rfl, lw_g_in (List.mem_of_getElem? (i := 853) (by decide +kernel)) rfl, lw_g_in (List.mem_of_getElem? (i := 854) (by decide +kernel)) rfl, lw_g_in (List.mem_of_getElem? (i := 130) (by decide +kernel)) rfl, by decide +kernel⟩
set_option maxRecDepth 20000 in
theorem cv_X10_140 : CLV RX10 140 9 yX10_pass 1 := ⟨TX10, 11, rfl, lw_g_in (List.mem_of_getElem? (i := 860) (by decide +kernel)) rfl, lw_g_in (List.mem_of_getElem? (i := 862) (by decide +kernel)) rfl, lw_g_in (List.mem_of_getElem? (i := 23) (by decide +kernel)) rfl, lw_g_in (List.mem_of_getElem? (i := 124) (by decide +kernel)) rfl, by decide +kernel⟩
set_option maxRecDepth 20000 in
theorem cv_X10_143 : CLV RX10 143 0 yX1_tick 0 := ⟨TX1, 4, rfl, lw_g_in (List.mem_of_getElem? (i := 864) (by decide +kernel)) rfl, lw_g_in (List.mem_of_getElem? (i := 865) (by decide +kernel)) rfl, lw_g_in (List.mem_of_getElem? (i := 866) (by decide +kernel)) rfl, lw_g_in (List.mem_of_getElem? (i := 130) (by decide +kernel)) rfl, by decide +kernel⟩
set_option maxRecDepth 20000 in
theorem cv_X10_146 : CLV RX10 146 8 yX9_textAt 1 := ⟨TX9, 15, rfl, lw_g_in (List.mem_of_getElem? (i := 980) (by decide +kernel)) rfl, lw_g_in (List.mem_of_getElem? (i := 905) (by decide +kernel)) rfl, lw_g_in (List.mem_of_getElem? (i := 906) (by decide +kernel)) rfl, lw_g_in (List.mem_of_getElem? (i := 126) (by decide +kernel)) rfl, by decide +kernel⟩
set_option maxRecDepth 20000 in
theorem cv_X10_150 : CLV RX10 150 6 yX7_clauseCount 0 := ⟨TX7, 3, rfl, lw_g_in (List.mem_of_getElem? (i := 981) (by decide +kernel)) rfl, lw_g_in (List.mem_of_getElem? (i := 982) (by decide +kernel)) rfl, lw_g_in (List.mem_of_getElem? (i := 983) (by decide +kernel)) rfl, lw_g_in (List.mem_of_getElem? (i := 141) (by decide +kernel)) rfl, by decide +kernel⟩
set_option maxRecDepth 20000 in
theorem cv_X10_156 : CLV RX10 156 6 yX7_clause 2 := ⟨TX7, 3, rfl, lw_g_in (List.mem_of_getElem? (i := 985) (by decide +kernel)) rfl, lw_g_in (List.mem_of_getElem? (i := 986) (by decide +kernel)) rfl, lw_g_in (List.mem_of_getElem? (i := 987) (by decide +kernel)) rfl, lw_g_in (List.mem_of_getElem? (i := 141) (by decide +kernel)) rfl, by decide +kernel⟩
set_option maxRecDepth 20000 in
theorem cv_X10_159 : CLV RX10 159 9 yX10_block 2 := ⟨TX10, 11, rfl, lw_g_in (List.mem_of_getElem? (i := 990) (by decide +kernel)) rfl, lw_g_in (List.mem_of_getElem? (i := 481) (by decide +kernel)) rfl, lw_g_in (List.mem_of_getElem? (i := 482) (by decide +kernel)) rfl, lw_g_in (List.mem_of_getElem? (i := 124) (by decide +kernel)) rfl, by decide +kernel⟩
set_option maxRecDepth 20000 in
theorem cv_X10_162 : CLV RX10 162 9 yX10_open 1 := ⟨TX10, 11, rfl, lw_g_in (List.mem_of_getElem? (i := 991) (by decide +kernel)) rfl, lw_g_in (List.mem_of_getElem? (i := 742) (by decide +kernel)) rfl, lw_g_in (List.mem_of_getElem? (i := 743) (by decide +kernel)) rfl, lw_g_in (List.mem_of_getElem? (i := 124) (by decide +kernel)) rfl, by decide +kernel⟩
set_option maxRecDepth 20000 in
theorem cv_X10_165 : CLV RX10 165 9 yX10_cancel 2 := ⟨TX10, 11, rfl, lw_g_in (List.mem_of_getElem? (i := 992) (by decide +kernel)) rfl, lw_g_in (List.mem_of_getElem? (i := 845) (by decide +kernel)) rfl, lw_g_in (List.mem_of_getElem? (i := 846) (by decide +kernel)) rfl, lw_g_in (List.mem_of_getElem? (i := 124) (by decide +kernel)) rfl, by decide +kernel⟩
set_option maxRecDepth 20000 in
theorem cs_X10_168 : CLS RX10 168 yJ9_min_7cf53 2 := ⟨lw_g_in (List.mem_of_getElem? (i := 993) (by decide +kernel)) rfl, lw_g_in (List.mem_of_getElem? (i := 529) (by decide +kernel)) rfl, lw_g_in (List.mem_of_getElem? (i := 129) (by decide +kernel)) rfl, by decide +kernel⟩
set_option maxRecDepth 20000 in
theorem cv_X10_176 : CLV RX10 176 9 yX10_drawYear 0 := ⟨TX10, 11, rfl, lw_g_in (List.mem_of_getElem? (i := 998) (by decide +kernel)) rfl, lw_g_in (List.mem_of_getElem? (i := 1000) (by decide +kernel)) rfl, lw_g_in (List.mem_of_getElem? (i := 38) (by decide +kernel)) rfl, lw_g_in (List.mem_of_getElem? (i := 124) (by decide +kernel)) rfl, by decide +kernel⟩
set_option maxRecDepth 20000 in
theorem cv_X10_179 : CLV RX10 179 5 yX6_stir 0 := ⟨TX6, 11, rfl, lw_g_in (List.mem_of_getElem? (i := 1002) (by decide +kernel)) rfl, lw_g_in (List.mem_of_getElem? (i := 897) (by decide +kernel)) rfl, lw_g_in (List.mem_of_getElem? (i := 898) (by decide +kernel)) rfl, lw_g_in (List.mem_of_getElem? (i := 127) (by decide +kernel)) rfl, by decide +kernel⟩
set_option maxRecDepth 20000 in
theorem cv_X10_182 : CLV RX10 182 4 yX5_takeBack 0 := ⟨TX5, 5, rfl, lw_g_in (List.mem_of_getElem? (i := 1007) (by decide +kernel)) rfl, lw_g_in (List.mem_of_getElem? (i := 1008) (by decide +kernel)) rfl, lw_g_in (List.mem_of_getElem? (i := 1009) (by decide +kernel)) rfl, lw_g_in (List.mem_of_getElem? (i := 125) (by decide +kernel)) rfl, by decide +kernel⟩
set_option maxRecDepth 20000 in
theorem cv_X10_185 : CLV RX10 185 9 yX10_reading 3 := ⟨TX10, 11, rfl, lw_g_in (List.mem_of_getElem? (i := 1015) (by decide +kernel)) rfl, lw_g_in (List.mem_of_getElem? (i := 1017) (by decide +kernel)) rfl, lw_g_in (List.mem_of_getElem? (i := 39) (by decide +kernel)) rfl, lw_g_in (List.mem_of_getElem? (i := 124) (by decide +kernel)) rfl, by decide +kernel⟩
set_option maxRecDepth 20000 in
theorem cv_X10_189 : CLV RX10 189 8 yX9_hasBlock 1 := ⟨TX9, 15, rfl, lw_g_in (List.mem_of_getElem? (i := 749) (by decide +kernel)) rfl, lw_g_in (List.mem_of_getElem? (i := 750) (by decide +kernel)) rfl, lw_g_in (List.mem_of_getElem? (i := 751) (by decide +kernel)) rfl, lw_g_in (List.mem_of_getElem? (i := 126) (by decide +kernel)) rfl, by decide +kernel⟩
set_option maxRecDepth 20000 in
theorem cv_X10_196 : CLV RX10 196 8 yX9_lengthOf 1 := ⟨TX9, 15, rfl, lw_g_in (List.mem_of_getElem? (i := 1019) (by decide +kernel)) rfl, lw_g_in (List.mem_of_getElem? (i := 820) (by decide +kernel)) rfl, lw_g_in (List.mem_of_getElem? (i := 821) (by decide +kernel)) rfl, lw_g_in (List.mem_of_getElem? (i := 126) (by decide +kernel)) rfl, by decide +kernel⟩
set_option maxRecDepth 20000 in
theorem cv_X10_199 : CLV RX10 199 8 yX9_redOf 1 := ⟨TX9, 15, rfl, lw_g_in (List.mem_of_getElem? (i := 1020) (by decide +kernel)) rfl, lw_g_in (List.mem_of_getElem? (i := 783) (by decide +kernel)) rfl, lw_g_in (List.mem_of_getElem? (i := 784) (by decide +kernel)) rfl, lw_g_in (List.mem_of_getElem? (i := 126) (by decide +kernel)) rfl, by decide +kernel⟩
set_option maxRecDepth 20000 in
theorem cv_X10_202 : CLV RX10 202 3 yX4_get 2 := ⟨TX4, 3, rfl, lw_g_in (List.mem_of_getElem? (i := 753) (by decide +kernel)) rfl, lw_g_in (List.mem_of_getElem? (i := 754) (by decide +kernel)) rfl, lw_g_in (List.mem_of_getElem? (i := 755) (by decide +kernel)) rfl, lw_g_in (List.mem_of_getElem? (i := 128) (by decide +kernel)) rfl, by decide +kernel⟩
set_option maxRecDepth 20000 in
theorem cs_X10_207 : CLS RX10 207 yJ6_bitCount_0f7a4 1 := ⟨lw_g_in (List.mem_of_getElem? (i := 1021) (by decide +kernel)) rfl, lw_g_in (List.mem_of_getElem? (i := 931) (by decide +kernel)) rfl, lw_g_in (List.mem_of_getElem? (i := 143) (by decide +kernel)) rfl, by decide +kernel⟩
set_option maxRecDepth 20000 in
theorem cv_X10_212 : CLV RX10 212 9 yX10_spanOf 3 := ⟨TX10, 11, rfl, lw_g_in (List.mem_of_getElem? (i := 1026) (by decide +kernel)) rfl, lw_g_in (List.mem_of_getElem? (i := 1028) (by decide +kernel)) rfl, lw_g_in (List.mem_of_getElem? (i := 40) (by decide +kernel)) rfl, lw_g_in (List.mem_of_getElem? (i := 124) (by decide +kernel)) rfl, by decide +kernel⟩
set_option maxRecDepth 20000 in
theorem cs_X10_216 : CLS RX10 216 yX0_first 1 := ⟨lw_g_in (List.mem_of_getElem? (i := 1053) (by decide +kernel)) rfl, lw_g_in (List.mem_of_getElem? (i := 796) (by decide +kernel)) rfl, lw_g_in (List.mem_of_getElem? (i := 142) (by decide +kernel)) rfl, by decide +kernel⟩
set_option maxRecDepth 20000 in
theorem cv_X10_221 : CLV RX10 221 9 yX10_spans 1 := ⟨TX10, 11, rfl, lw_g_in (List.mem_of_getElem? (i := 1030) (by decide +kernel)) rfl, lw_g_in (List.mem_of_getElem? (i := 1031) (by decide +kernel)) rfl, lw_g_in (List.mem_of_getElem? (i := 1032) (by decide +kernel)) rfl, lw_g_in (List.mem_of_getElem? (i := 124) (by decide +kernel)) rfl, by decide +kernel⟩
set_option maxRecDepth 20000 in
theorem cv_X10_224 : CLV RX10 224 9 yX10_span 3 := ⟨TX10, 11, rfl, lw_g_in (List.mem_of_getElem? (i := 1042) (by decide +kernel)) rfl, lw_g_in (List.mem_of_getElem? (i := 1043) (by decide +kernel)) rfl, lw_g_in (List.mem_of_getElem? (i := 1044) (by decide +kernel)) rfl, lw_g_in (List.mem_of_getElem? (i := 124) (by decide +kernel)) rfl, by decide +kernel⟩
set_option maxRecDepth 20000 in
theorem cv_X10_227 : CLV RX10 227 5 yX6_line 1 := ⟨TX6, 11, rfl, lw_g_in (List.mem_of_getElem? (i := 1062) (by decide +kernel)) rfl, lw_g_in (List.mem_of_getElem? (i := 779) (by decide +kernel)) rfl, lw_g_in (List.mem_of_getElem? (i := 780) (by decide +kernel)) rfl, lw_g_in (List.mem_of_getElem? (i := 127) (by decide +kernel)) rfl, by decide +kernel⟩
set_option maxRecDepth 20000 in
theorem cv_X10_231 : CLV RX10 231 3 yX4_countOrCell 2 := ⟨TX4, 3, rfl, lw_g_in (List.mem_of_getElem? (i := 1063) (by decide +kernel)) rfl, lw_g_in (List.mem_of_getElem? (i := 1064) (by decide +kernel)) rfl, lw_g_in (List.mem_of_getElem? (i := 1065) (by decide +kernel)) rfl, lw_g_in (List.mem_of_getElem? (i := 128) (by decide +kernel)) rfl, by decide +kernel⟩
set_option maxRecDepth 20000 in
theorem cs_X10_261 : CLS RX10 261 yJ9_max_7cf53 2 := ⟨lw_g_in (List.mem_of_getElem? (i := 1098) (by decide +kernel)) rfl, lw_g_in (List.mem_of_getElem? (i := 240) (by decide +kernel)) rfl, lw_g_in (List.mem_of_getElem? (i := 129) (by decide +kernel)) rfl, by decide +kernel⟩
set_option maxRecDepth 20000 in
theorem cv_X10_264 : CLV RX10 264 3 yX4_countOf 2 := ⟨TX4, 3, rfl, lw_g_in (List.mem_of_getElem? (i := 1115) (by decide +kernel)) rfl, lw_g_in (List.mem_of_getElem? (i := 1116) (by decide +kernel)) rfl, lw_g_in (List.mem_of_getElem? (i := 1117) (by decide +kernel)) rfl, lw_g_in (List.mem_of_getElem? (i := 128) (by decide +kernel)) rfl, by decide +kernel⟩
set_option maxRecDepth 20000 in
theorem cv_X10_267 : CLV RX10 267 8 yX9_sees 1 := ⟨TX9, 15, rfl, lw_g_in (List.mem_of_getElem? (i := 1131) (by decide +kernel)) rfl, lw_g_in (List.mem_of_getElem? (i := 885) (by decide +kernel)) rfl, lw_g_in (List.mem_of_getElem? (i := 886) (by decide +kernel)) rfl, lw_g_in (List.mem_of_getElem? (i := 126) (by decide +kernel)) rfl, by decide +kernel⟩
set_option maxRecDepth 20000 in
theorem cv_X10_270 : CLV RX10 270 8 yX9_ticksForSun 2 := ⟨TX9, 15, rfl, lw_g_in (List.mem_of_getElem? (i := 1136) (by decide +kernel)) rfl, lw_g_in (List.mem_of_getElem? (i := 1137) (by decide +kernel)) rfl, lw_g_in (List.mem_of_getElem? (i := 1138) (by decide +kernel)) rfl, lw_g_in (List.mem_of_getElem? (i := 126) (by decide +kernel)) rfl, by decide +kernel⟩
set_option maxRecDepth 20000 in
theorem cv_X10_273 : CLV RX10 273 8 yX9_ticksToSeen 1 := ⟨TX9, 15, rfl, lw_g_in (List.mem_of_getElem? (i := 1145) (by decide +kernel)) rfl, lw_g_in (List.mem_of_getElem? (i := 1146) (by decide +kernel)) rfl, lw_g_in (List.mem_of_getElem? (i := 1147) (by decide +kernel)) rfl, lw_g_in (List.mem_of_getElem? (i := 126) (by decide +kernel)) rfl, by decide +kernel⟩
set_option maxRecDepth 20000 in
theorem cv_X10_277 : CLV RX10 277 5 yX6_copyFrom 1 := ⟨TX6, 11, rfl, lw_g_in (List.mem_of_getElem? (i := 1161) (by decide +kernel)) rfl, lw_g_in (List.mem_of_getElem? (i := 766) (by decide +kernel)) rfl, lw_g_in (List.mem_of_getElem? (i := 767) (by decide +kernel)) rfl, lw_g_in (List.mem_of_getElem? (i := 127) (by decide +kernel)) rfl, by decide +kernel⟩
set_option maxRecDepth 20000 in
theorem cv_X10_281 : CLV RX10 281 0 yX1_ticksTillEnd 1 := ⟨TX1, 4, rfl, lw_g_in (List.mem_of_getElem? (i := 1166) (by decide +kernel)) rfl, lw_g_in (List.mem_of_getElem? (i := 1167) (by decide +kernel)) rfl, lw_g_in (List.mem_of_getElem? (i := 1168) (by decide +kernel)) rfl, lw_g_in (List.mem_of_getElem? (i := 130) (by decide +kernel)) rfl, by decide +kernel⟩
set_option maxRecDepth 20000 in
theorem cs_X10_288 : CLS RX10 288 yX0_fits 1 := ⟨lw_g_in (List.mem_of_getElem? (i := 1034) (by decide +kernel)) rfl, lw_g_in (List.mem_of_getElem? (i := 1035) (by decide +kernel)) rfl, lw_g_in (List.mem_of_getElem? (i := 142) (by decide +kernel)) rfl, by decide +kernel⟩
set_option maxRecDepth 20000 in
theorem cs_X10_291 : CLS RX10 291 yX0_pieceCount 2 := ⟨lw_g_in (List.mem_of_getElem? (i := 1037) (by decide +kernel)) rfl, lw_g_in (List.mem_of_getElem? (i := 1038) (by decide +kernel)) rfl, lw_g_in (List.mem_of_getElem? (i := 142) (by decide +kernel)) rfl, by decide +kernel⟩
set_option maxRecDepth 20000 in
theorem cs_X10_294 : CLS RX10 294 yX0_pieceEdge 4 := ⟨lw_g_in (List.mem_of_getElem? (i := 1046) (by decide +kernel)) rfl, lw_g_in (List.mem_of_getElem? (i := 1047) (by decide +kernel)) rfl, lw_g_in (List.mem_of_getElem? (i := 142) (by decide +kernel)) rfl, by decide +kernel⟩
set_option maxRecDepth 20000 in
theorem cs_X10_298 : CLS RX10 298 yX0_between 2 := ⟨lw_g_in (List.mem_of_getElem? (i := 1181) (by decide +kernel)) rfl, lw_g_in (List.mem_of_getElem? (i := 824) (by decide +kernel)) rfl, lw_g_in (List.mem_of_getElem? (i := 142) (by decide +kernel)) rfl, by decide +kernel⟩
set_option maxRecDepth 20000 in
theorem cs_X10_301 : CLS RX10 301 yX0_longestRun 1 := ⟨lw_g_in (List.mem_of_getElem? (i := 1202) (by decide +kernel)) rfl, lw_g_in (List.mem_of_getElem? (i := 1203) (by decide +kernel)) rfl, lw_g_in (List.mem_of_getElem? (i := 142) (by decide +kernel)) rfl, by decide +kernel⟩
set_option maxRecDepth 20000 in
theorem cv_X10_308 : CLV RX10 308 8 yX9_rulingText 0 := ⟨TX9, 15, rfl, lw_g_in (List.mem_of_getElem? (i := 1209) (by decide +kernel)) rfl, lw_g_in (List.mem_of_getElem? (i := 901) (by decide +kernel)) rfl, lw_g_in (List.mem_of_getElem? (i := 902) (by decide +kernel)) rfl, lw_g_in (List.mem_of_getElem? (i := 126) (by decide +kernel)) rfl, by decide +kernel⟩
set_option maxRecDepth 20000 in
theorem cv_X10_312 : CLV RX10 312 1 yX2_losing 4 := ⟨TX2, 7, rfl, lw_g_in (List.mem_of_getElem? (i := 1210) (by decide +kernel)) rfl, lw_g_in (List.mem_of_getElem? (i := 909) (by decide +kernel)) rfl, lw_g_in (List.mem_of_getElem? (i := 910) (by decide +kernel)) rfl, lw_g_in (List.mem_of_getElem? (i := 131) (by decide +kernel)) rfl, by decide +kernel⟩
set_option maxRecDepth 20000 in
theorem cv_X10_318 : CLV RX10 318 1 yX2_waiting 4 := ⟨TX2, 7, rfl, lw_g_in (List.mem_of_getElem? (i := 1215) (by decide +kernel)) rfl, lw_g_in (List.mem_of_getElem? (i := 959) (by decide +kernel)) rfl, lw_g_in (List.mem_of_getElem? (i := 960) (by decide +kernel)) rfl, lw_g_in (List.mem_of_getElem? (i := 131) (by decide +kernel)) rfl, by decide +kernel⟩
set_option maxRecDepth 20000 in
theorem cv_X10_321 : CLV RX10 321 9 yX10_saysAll 1 := ⟨TX10, 11, rfl, lw_g_in (List.mem_of_getElem? (i := 1220) (by decide +kernel)) rfl, lw_g_in (List.mem_of_getElem? (i := 1222) (by decide +kernel)) rfl, lw_g_in (List.mem_of_getElem? (i := 41) (by decide +kernel)) rfl, lw_g_in (List.mem_of_getElem? (i := 124) (by decide +kernel)) rfl, by decide +kernel⟩
set_option maxRecDepth 20000 in
theorem cv_X10_325 : CLV RX10 325 8 yX9_saidKind 1 := ⟨TX9, 15, rfl, lw_g_in (List.mem_of_getElem? (i := 1224) (by decide +kernel)) rfl, lw_g_in (List.mem_of_getElem? (i := 1225) (by decide +kernel)) rfl, lw_g_in (List.mem_of_getElem? (i := 1226) (by decide +kernel)) rfl, lw_g_in (List.mem_of_getElem? (i := 126) (by decide +kernel)) rfl, by decide +kernel⟩
set_option maxRecDepth 20000 in
theorem cv_X10_328 : CLV RX10 328 8 yX9_saidLoses 1 := ⟨TX9, 15, rfl, lw_g_in (List.mem_of_getElem? (i := 1228) (by decide +kernel)) rfl, lw_g_in (List.mem_of_getElem? (i := 1229) (by decide +kernel)) rfl, lw_g_in (List.mem_of_getElem? (i := 1230) (by decide +kernel)) rfl, lw_g_in (List.mem_of_getElem? (i := 126) (by decide +kernel)) rfl, by decide +kernel⟩
set_option maxRecDepth 20000 in
theorem cs_X10_335 : CLS RX10 335 yX10_commonDivisor 2 := ⟨lw_g_in (List.mem_of_getElem? (i := 1238) (by decide +kernel)) rfl, lw_g_in (List.mem_of_getElem? (i := 1239) (by decide +kernel)) rfl, lw_g_in (List.mem_of_getElem? (i := 124) (by decide +kernel)) rfl, by decide +kernel⟩
set_option maxRecDepth 20000 in
theorem cv_X10_339 : CLV RX10 339 4 yX5_copyFrom 1 := ⟨TX5, 5, rfl, lw_g_in (List.mem_of_getElem? (i := 1245) (by decide +kernel)) rfl, lw_g_in (List.mem_of_getElem? (i := 1246) (by decide +kernel)) rfl, lw_g_in (List.mem_of_getElem? (i := 1247) (by decide +kernel)) rfl, lw_g_in (List.mem_of_getElem? (i := 125) (by decide +kernel)) rfl, by decide +kernel⟩
set_option maxRecDepth 20000 in
theorem cs_X0_10 : CLS RX0 10 yX0_first 1 := ⟨lw_g_in (List.mem_of_getElem? (i := 826) (by decide +kernel)) rfl, lw_g_in (List.mem_of_getElem? (i := 796) (by decide +kernel)) rfl, lw_g_in (List.mem_of_getElem? (i := 142) (by decide +kernel)) rfl, by decide +kernel⟩
set_option maxRecDepth 20000 in
theorem cs_X0_16 : CLS RX0 16 yJ9_max_7cf53 2 := ⟨lw_g_in (List.mem_of_getElem? (i := 806) (by decide +kernel)) rfl, lw_g_in (List.mem_of_getElem? (i := 240) (by decide +kernel)) rfl, lw_g_in (List.mem_of_getElem? (i := 129) (by decide +kernel)) rfl, by decide +kernel⟩
set_option maxRecDepth 20000 in
theorem cs_X0_22 : CLS RX0 22 yX0_nextFrom 2 := ⟨lw_g_in (List.mem_of_getElem? (i := 1040) (by decide +kernel)) rfl, lw_g_in (List.mem_of_getElem? (i := 804) (by decide +kernel)) rfl, lw_g_in (List.mem_of_getElem? (i := 142) (by decide +kernel)) rfl, by decide +kernel⟩
set_option maxRecDepth 20000 in
theorem cs_X0_25 : CLS RX0 25 yX0_pieceTo 3 := ⟨lw_g_in (List.mem_of_getElem? (i := 1041) (by decide +kernel)) rfl, lw_g_in (List.mem_of_getElem? (i := 808) (by decide +kernel)) rfl, lw_g_in (List.mem_of_getElem? (i := 142) (by decide +kernel)) rfl, by decide +kernel⟩
set_option maxRecDepth 20000 in
theorem ci_X1_21 : CLI RX1 21 yX2_init 2 := ⟨lw_g_in (List.mem_of_getElem? (i := 339) (by decide +kernel)) rfl, lw_g_in (List.mem_of_getElem? (i := 340) (by decide +kernel)) rfl, lw_g_in (List.mem_of_getElem? (i := 131) (by decide +kernel)) rfl, by decide +kernel⟩
set_option maxRecDepth 20000 in
theorem cv_X1_32 : CLV RX1 32 5 yX6_line 1 := ⟨TX6, 11, rfl, lw_g_in (List.mem_of_getElem? (i := 778) (by decide +kernel)) rfl, lw_g_in (List.mem_of_getElem? (i := 779) (by decide +kernel)) rfl, lw_g_in (List.mem_of_getElem? (i := 780) (by decide +kernel)) rfl, lw_g_in (List.mem_of_getElem? (i := 127) (by decide +kernel)) rfl, by decide +kernel⟩
set_option maxRecDepth 20000 in
theorem cv_X1_44 : CLV RX1 44 8 yX9_redOf 1 := ⟨TX9, 15, rfl, lw_g_in (List.mem_of_getElem? (i := 782) (by decide +kernel)) rfl, lw_g_in (List.mem_of_getElem? (i := 783) (by decide +kernel)) rfl, lw_g_in (List.mem_of_getElem? (i := 784) (by decide +kernel)) rfl, lw_g_in (List.mem_of_getElem? (i := 126) (by decide +kernel)) rfl, by decide +kernel⟩
set_option maxRecDepth 20000 in
theorem cv_X1_54 : CLV RX1 54 3 yX4_put 3 := ⟨TX4, 3, rfl, lw_g_in (List.mem_of_getElem? (i := 787) (by decide +kernel)) rfl, lw_g_in (List.mem_of_getElem? (i := 788) (by decide +kernel)) rfl, lw_g_in (List.mem_of_getElem? (i := 789) (by decide +kernel)) rfl, lw_g_in (List.mem_of_getElem? (i := 128) (by decide +kernel)) rfl, by decide +kernel⟩
set_option maxRecDepth 20000 in
theorem cv_X1_64 : CLV RX1 64 3 yX4_addNote 4 := ⟨TX4, 3, rfl, lw_g_in (List.mem_of_getElem? (i := 791) (by decide +kernel)) rfl, lw_g_in (List.mem_of_getElem? (i := 792) (by decide +kernel)) rfl, lw_g_in (List.mem_of_getElem? (i := 793) (by decide +kernel)) rfl, lw_g_in (List.mem_of_getElem? (i := 128) (by decide +kernel)) rfl, by decide +kernel⟩
set_option maxRecDepth 20000 in
theorem cs_X1_68 : CLS RX1 68 yX0_first 1 := ⟨lw_g_in (List.mem_of_getElem? (i := 795) (by decide +kernel)) rfl, lw_g_in (List.mem_of_getElem? (i := 796) (by decide +kernel)) rfl, lw_g_in (List.mem_of_getElem? (i := 142) (by decide +kernel)) rfl, by decide +kernel⟩
set_option maxRecDepth 20000 in
theorem cv_X1_73 : CLV RX1 73 0 yX1_putPieces 3 := ⟨TX1, 4, rfl, lw_g_in (List.mem_of_getElem? (i := 799) (by decide +kernel)) rfl, lw_g_in (List.mem_of_getElem? (i := 801) (by decide +kernel)) rfl, lw_g_in (List.mem_of_getElem? (i := 20) (by decide +kernel)) rfl, lw_g_in (List.mem_of_getElem? (i := 130) (by decide +kernel)) rfl, by decide +kernel⟩
set_option maxRecDepth 20000 in
theorem cv_X1_77 : CLV RX1 77 8 yX9_lengthOf 1 := ⟨TX9, 15, rfl, lw_g_in (List.mem_of_getElem? (i := 819) (by decide +kernel)) rfl, lw_g_in (List.mem_of_getElem? (i := 820) (by decide +kernel)) rfl, lw_g_in (List.mem_of_getElem? (i := 821) (by decide +kernel)) rfl, lw_g_in (List.mem_of_getElem? (i := 126) (by decide +kernel)) rfl, by decide +kernel⟩
set_option maxRecDepth 20000 in
theorem cs_X1_80 : CLS RX1 80 yX0_between 2 := ⟨lw_g_in (List.mem_of_getElem? (i := 823) (by decide +kernel)) rfl, lw_g_in (List.mem_of_getElem? (i := 824) (by decide +kernel)) rfl, lw_g_in (List.mem_of_getElem? (i := 142) (by decide +kernel)) rfl, by decide +kernel⟩
set_option maxRecDepth 20000 in
theorem cv_X1_84 : CLV RX1 84 0 yX1_finish 1 := ⟨TX1, 4, rfl, lw_g_in (List.mem_of_getElem? (i := 827) (by decide +kernel)) rfl, lw_g_in (List.mem_of_getElem? (i := 829) (by decide +kernel)) rfl, lw_g_in (List.mem_of_getElem? (i := 21) (by decide +kernel)) rfl, lw_g_in (List.mem_of_getElem? (i := 130) (by decide +kernel)) rfl, by decide +kernel⟩
set_option maxRecDepth 20000 in
theorem cv_X1_88 : CLV RX1 88 3 yX4_get 2 := ⟨TX4, 3, rfl, lw_g_in (List.mem_of_getElem? (i := 814) (by decide +kernel)) rfl, lw_g_in (List.mem_of_getElem? (i := 754) (by decide +kernel)) rfl, lw_g_in (List.mem_of_getElem? (i := 755) (by decide +kernel)) rfl, lw_g_in (List.mem_of_getElem? (i := 128) (by decide +kernel)) rfl, by decide +kernel⟩
set_option maxRecDepth 20000 in
theorem cv_X1_92 : CLV RX1 92 0 yX1_forget 5 := ⟨TX1, 4, rfl, lw_g_in (List.mem_of_getElem? (i := 832) (by decide +kernel)) rfl, lw_g_in (List.mem_of_getElem? (i := 834) (by decide +kernel)) rfl, lw_g_in (List.mem_of_getElem? (i := 22) (by decide +kernel)) rfl, lw_g_in (List.mem_of_getElem? (i := 130) (by decide +kernel)) rfl, by decide +kernel⟩
set_option maxRecDepth 20000 in
theorem cv_X1_96 : CLV RX1 96 3 yX4_addMessage 7 := ⟨TX4, 3, rfl, lw_g_in (List.mem_of_getElem? (i := 815) (by decide +kernel)) rfl, lw_g_in (List.mem_of_getElem? (i := 816) (by decide +kernel)) rfl, lw_g_in (List.mem_of_getElem? (i := 817) (by decide +kernel)) rfl, lw_g_in (List.mem_of_getElem? (i := 128) (by decide +kernel)) rfl, by decide +kernel⟩
set_option maxRecDepth 20000 in
theorem cv_X1_103 : CLV RX1 103 0 yX1_got 1 := ⟨TX1, 4, rfl, lw_g_in (List.mem_of_getElem? (i := 868) (by decide +kernel)) rfl, lw_g_in (List.mem_of_getElem? (i := 870) (by decide +kernel)) rfl, lw_g_in (List.mem_of_getElem? (i := 24) (by decide +kernel)) rfl, lw_g_in (List.mem_of_getElem? (i := 130) (by decide +kernel)) rfl, by decide +kernel⟩
set_option maxRecDepth 20000 in
theorem cv_X1_106 : CLV RX1 106 3 yX4_remove 1 := ⟨TX4, 3, rfl, lw_g_in (List.mem_of_getElem? (i := 840) (by decide +kernel)) rfl, lw_g_in (List.mem_of_getElem? (i := 841) (by decide +kernel)) rfl, lw_g_in (List.mem_of_getElem? (i := 842) (by decide +kernel)) rfl, lw_g_in (List.mem_of_getElem? (i := 128) (by decide +kernel)) rfl, by decide +kernel⟩
set_option maxRecDepth 20000 in
theorem cv_X1_109 : CLV RX1 109 8 yX9_sees 1 := ⟨TX9, 15, rfl, lw_g_in (List.mem_of_getElem? (i := 884) (by decide +kernel)) rfl, lw_g_in (List.mem_of_getElem? (i := 885) (by decide +kernel)) rfl, lw_g_in (List.mem_of_getElem? (i := 886) (by decide +kernel)) rfl, lw_g_in (List.mem_of_getElem? (i := 126) (by decide +kernel)) rfl, by decide +kernel⟩
set_option maxRecDepth 20000 in
theorem cv_X1_113 : CLV RX1 113 0 yX1_send 1 := ⟨TX1, 4, rfl, lw_g_in (List.mem_of_getElem? (i := 888) (by decide +kernel)) rfl, lw_g_in (List.mem_of_getElem? (i := 890) (by decide +kernel)) rfl, lw_g_in (List.mem_of_getElem? (i := 28) (by decide +kernel)) rfl, lw_g_in (List.mem_of_getElem? (i := 130) (by decide +kernel)) rfl, by decide +kernel⟩
set_option maxRecDepth 20000 in
theorem cv_X1_119 : CLV RX1 119 0 yX1_ring 0 := ⟨TX1, 4, rfl, lw_g_in (List.mem_of_getElem? (i := 962) (by decide +kernel)) rfl, lw_g_in (List.mem_of_getElem? (i := 964) (by decide +kernel)) rfl, lw_g_in (List.mem_of_getElem? (i := 35) (by decide +kernel)) rfl, lw_g_in (List.mem_of_getElem? (i := 130) (by decide +kernel)) rfl, by decide +kernel⟩
set_option maxRecDepth 20000 in
theorem cv_X1_122 : CLV RX1 122 0 yX1_tick 0 := ⟨TX1, 4, rfl, lw_g_in (List.mem_of_getElem? (i := 1170) (by decide +kernel)) rfl, lw_g_in (List.mem_of_getElem? (i := 865) (by decide +kernel)) rfl, lw_g_in (List.mem_of_getElem? (i := 866) (by decide +kernel)) rfl, lw_g_in (List.mem_of_getElem? (i := 130) (by decide +kernel)) rfl, by decide +kernel⟩
set_option maxRecDepth 20000 in
theorem cs_X1_125 : CLS RX1 125 yX0_nextFrom 2 := ⟨lw_g_in (List.mem_of_getElem? (i := 803) (by decide +kernel)) rfl, lw_g_in (List.mem_of_getElem? (i := 804) (by decide +kernel)) rfl, lw_g_in (List.mem_of_getElem? (i := 142) (by decide +kernel)) rfl, by decide +kernel⟩
set_option maxRecDepth 20000 in
theorem cs_X1_131 : CLS RX1 131 yX0_pieceTo 3 := ⟨lw_g_in (List.mem_of_getElem? (i := 807) (by decide +kernel)) rfl, lw_g_in (List.mem_of_getElem? (i := 808) (by decide +kernel)) rfl, lw_g_in (List.mem_of_getElem? (i := 142) (by decide +kernel)) rfl, by decide +kernel⟩
set_option maxRecDepth 20000 in
theorem cv_X1_135 : CLV RX1 135 3 yX4_raise 3 := ⟨TX4, 3, rfl, lw_g_in (List.mem_of_getElem? (i := 810) (by decide +kernel)) rfl, lw_g_in (List.mem_of_getElem? (i := 811) (by decide +kernel)) rfl, lw_g_in (List.mem_of_getElem? (i := 812) (by decide +kernel)) rfl, lw_g_in (List.mem_of_getElem? (i := 128) (by decide +kernel)) rfl, by decide +kernel⟩
set_option maxRecDepth 20000 in
theorem cv_X1_141 : CLV RX1 141 3 yX4_isOf 5 := ⟨TX4, 3, rfl, lw_g_in (List.mem_of_getElem? (i := 836) (by decide +kernel)) rfl, lw_g_in (List.mem_of_getElem? (i := 837) (by decide +kernel)) rfl, lw_g_in (List.mem_of_getElem? (i := 838) (by decide +kernel)) rfl, lw_g_in (List.mem_of_getElem? (i := 128) (by decide +kernel)) rfl, by decide +kernel⟩
set_option maxRecDepth 20000 in
theorem cv_X1_148 : CLV RX1 148 0 yX1_gotData 3 := ⟨TX1, 4, rfl, lw_g_in (List.mem_of_getElem? (i := 872) (by decide +kernel)) rfl, lw_g_in (List.mem_of_getElem? (i := 874) (by decide +kernel)) rfl, lw_g_in (List.mem_of_getElem? (i := 25) (by decide +kernel)) rfl, lw_g_in (List.mem_of_getElem? (i := 130) (by decide +kernel)) rfl, by decide +kernel⟩
set_option maxRecDepth 20000 in
theorem cv_X1_151 : CLV RX1 151 0 yX1_gotReport 4 := ⟨TX1, 4, rfl, lw_g_in (List.mem_of_getElem? (i := 876) (by decide +kernel)) rfl, lw_g_in (List.mem_of_getElem? (i := 878) (by decide +kernel)) rfl, lw_g_in (List.mem_of_getElem? (i := 26) (by decide +kernel)) rfl, lw_g_in (List.mem_of_getElem? (i := 130) (by decide +kernel)) rfl, by decide +kernel⟩
set_option maxRecDepth 20000 in
theorem cv_X1_154 : CLV RX1 154 0 yX1_gotCancelling 2 := ⟨TX1, 4, rfl, lw_g_in (List.mem_of_getElem? (i := 880) (by decide +kernel)) rfl, lw_g_in (List.mem_of_getElem? (i := 882) (by decide +kernel)) rfl, lw_g_in (List.mem_of_getElem? (i := 27) (by decide +kernel)) rfl, lw_g_in (List.mem_of_getElem? (i := 130) (by decide +kernel)) rfl, by decide +kernel⟩
set_option maxRecDepth 20000 in
theorem cv_X1_164 : CLV RX1 164 5 yX6_drawn 0 := ⟨TX6, 11, rfl, lw_g_in (List.mem_of_getElem? (i := 892) (by decide +kernel)) rfl, lw_g_in (List.mem_of_getElem? (i := 893) (by decide +kernel)) rfl, lw_g_in (List.mem_of_getElem? (i := 894) (by decide +kernel)) rfl, lw_g_in (List.mem_of_getElem? (i := 127) (by decide +kernel)) rfl, by decide +kernel⟩
set_option maxRecDepth 20000 in
theorem cv_X1_168 : CLV RX1 168 8 yX9_rulingText 0 := ⟨TX9, 15, rfl, lw_g_in (List.mem_of_getElem? (i := 900) (by decide +kernel)) rfl, lw_g_in (List.mem_of_getElem? (i := 901) (by decide +kernel)) rfl, lw_g_in (List.mem_of_getElem? (i := 902) (by decide +kernel)) rfl, lw_g_in (List.mem_of_getElem? (i := 126) (by decide +kernel)) rfl, by decide +kernel⟩
set_option maxRecDepth 20000 in
theorem cv_X1_172 : CLV RX1 172 1 yX2_losing 4 := ⟨TX2, 7, rfl, lw_g_in (List.mem_of_getElem? (i := 908) (by decide +kernel)) rfl, lw_g_in (List.mem_of_getElem? (i := 909) (by decide +kernel)) rfl, lw_g_in (List.mem_of_getElem? (i := 910) (by decide +kernel)) rfl, lw_g_in (List.mem_of_getElem? (i := 131) (by decide +kernel)) rfl, by decide +kernel⟩
set_option maxRecDepth 20000 in
theorem cv_X1_182 : CLV RX1 182 3 yX4_addFirstOf 3 := ⟨TX4, 3, rfl, lw_g_in (List.mem_of_getElem? (i := 954) (by decide +kernel)) rfl, lw_g_in (List.mem_of_getElem? (i := 955) (by decide +kernel)) rfl, lw_g_in (List.mem_of_getElem? (i := 956) (by decide +kernel)) rfl, lw_g_in (List.mem_of_getElem? (i := 128) (by decide +kernel)) rfl, by decide +kernel⟩
set_option maxRecDepth 20000 in
theorem cv_X1_186 : CLV RX1 186 1 yX2_waiting 4 := ⟨TX2, 7, rfl, lw_g_in (List.mem_of_getElem? (i := 958) (by decide +kernel)) rfl, lw_g_in (List.mem_of_getElem? (i := 959) (by decide +kernel)) rfl, lw_g_in (List.mem_of_getElem? (i := 960) (by decide +kernel)) rfl, lw_g_in (List.mem_of_getElem? (i := 131) (by decide +kernel)) rfl, by decide +kernel⟩
set_option maxRecDepth 20000 in
theorem cv_X1_189 : CLV RX1 189 0 yX1_firstDue 0 := ⟨TX1, 4, rfl, lw_g_in (List.mem_of_getElem? (i := 966) (by decide +kernel)) rfl, lw_g_in (List.mem_of_getElem? (i := 968) (by decide +kernel)) rfl, lw_g_in (List.mem_of_getElem? (i := 36) (by decide +kernel)) rfl, lw_g_in (List.mem_of_getElem? (i := 130) (by decide +kernel)) rfl, by decide +kernel⟩
set_option maxRecDepth 20000 in
theorem cv_X1_192 : CLV RX1 192 0 yX1_ringOne 1 := ⟨TX1, 4, rfl, lw_g_in (List.mem_of_getElem? (i := 970) (by decide +kernel)) rfl, lw_g_in (List.mem_of_getElem? (i := 972) (by decide +kernel)) rfl, lw_g_in (List.mem_of_getElem? (i := 37) (by decide +kernel)) rfl, lw_g_in (List.mem_of_getElem? (i := 130) (by decide +kernel)) rfl, by decide +kernel⟩
set_option maxRecDepth 20000 in
theorem cv_X1_198 : CLV RX1 198 0 yX1_canCancel 2 := ⟨TX1, 4, rfl, lw_g_in (List.mem_of_getElem? (i := 974) (by decide +kernel)) rfl, lw_g_in (List.mem_of_getElem? (i := 849) (by decide +kernel)) rfl, lw_g_in (List.mem_of_getElem? (i := 850) (by decide +kernel)) rfl, lw_g_in (List.mem_of_getElem? (i := 130) (by decide +kernel)) rfl, by decide +kernel⟩
set_option maxRecDepth 20000 in
theorem cv_X1_202 : CLV RX1 202 0 yX1_cancelBy 2 := ⟨TX1, 4, rfl, lw_g_in (List.mem_of_getElem? (i := 975) (by decide +kernel)) rfl, lw_g_in (List.mem_of_getElem? (i := 853) (by decide +kernel)) rfl, lw_g_in (List.mem_of_getElem? (i := 854) (by decide +kernel)) rfl, lw_g_in (List.mem_of_getElem? (i := 130) (by decide +kernel)) rfl, by decide +kernel⟩
set_option maxRecDepth 20000 in
theorem cv_X2_28 : CLV RX2 28 1 yX2_value 4 := ⟨TX2, 7, rfl, lw_g_in (List.mem_of_getElem? (i := 912) (by decide +kernel)) rfl, lw_g_in (List.mem_of_getElem? (i := 914) (by decide +kernel)) rfl, lw_g_in (List.mem_of_getElem? (i := 29) (by decide +kernel)) rfl, lw_g_in (List.mem_of_getElem? (i := 131) (by decide +kernel)) rfl, by decide +kernel⟩
set_option maxRecDepth 20000 in
theorem cs_X2_32 : CLS RX2 32 yJ9_min_7cf53 2 := ⟨lw_g_in (List.mem_of_getElem? (i := 952) (by decide +kernel)) rfl, lw_g_in (List.mem_of_getElem? (i := 529) (by decide +kernel)) rfl, lw_g_in (List.mem_of_getElem? (i := 129) (by decide +kernel)) rfl, by decide +kernel⟩
set_option maxRecDepth 20000 in
theorem cs_X2_38 : CLS RX2 38 yJ9_max_7cf53 2 := ⟨lw_g_in (List.mem_of_getElem? (i := 953) (by decide +kernel)) rfl, lw_g_in (List.mem_of_getElem? (i := 240) (by decide +kernel)) rfl, lw_g_in (List.mem_of_getElem? (i := 129) (by decide +kernel)) rfl, by decide +kernel⟩
set_option maxRecDepth 20000 in
theorem cv_X2_62 : CLV RX2 62 1 yX2_pop 0 := ⟨TX2, 7, rfl, lw_g_in (List.mem_of_getElem? (i := 916) (by decide +kernel)) rfl, lw_g_in (List.mem_of_getElem? (i := 918) (by decide +kernel)) rfl, lw_g_in (List.mem_of_getElem? (i := 30) (by decide +kernel)) rfl, lw_g_in (List.mem_of_getElem? (i := 131) (by decide +kernel)) rfl, by decide +kernel⟩
set_option maxRecDepth 20000 in
theorem cv_X2_66 : CLV RX2 66 1 yX2_push 1 := ⟨TX2, 7, rfl, lw_g_in (List.mem_of_getElem? (i := 920) (by decide +kernel)) rfl, lw_g_in (List.mem_of_getElem? (i := 922) (by decide +kernel)) rfl, lw_g_in (List.mem_of_getElem? (i := 31) (by decide +kernel)) rfl, lw_g_in (List.mem_of_getElem? (i := 131) (by decide +kernel)) rfl, by decide +kernel⟩
set_option maxRecDepth 20000 in
theorem cv_X2_70 : CLV RX2 70 1 yX2_bytesOf 2 := ⟨TX2, 7, rfl, lw_g_in (List.mem_of_getElem? (i := 924) (by decide +kernel)) rfl, lw_g_in (List.mem_of_getElem? (i := 926) (by decide +kernel)) rfl, lw_g_in (List.mem_of_getElem? (i := 32) (by decide +kernel)) rfl, lw_g_in (List.mem_of_getElem? (i := 131) (by decide +kernel)) rfl, by decide +kernel⟩
set_option maxRecDepth 20000 in
theorem cv_X2_73 : CLV RX2 73 1 yX2_named 1 := ⟨TX2, 7, rfl, lw_g_in (List.mem_of_getElem? (i := 936) (by decide +kernel)) rfl, lw_g_in (List.mem_of_getElem? (i := 938) (by decide +kernel)) rfl, lw_g_in (List.mem_of_getElem? (i := 33) (by decide +kernel)) rfl, lw_g_in (List.mem_of_getElem? (i := 131) (by decide +kernel)) rfl, by decide +kernel⟩
set_option maxRecDepth 20000 in
theorem cv_X2_77 : CLV RX2 77 1 yX2_pushOfTwo 1 := ⟨TX2, 7, rfl, lw_g_in (List.mem_of_getElem? (i := 940) (by decide +kernel)) rfl, lw_g_in (List.mem_of_getElem? (i := 942) (by decide +kernel)) rfl, lw_g_in (List.mem_of_getElem? (i := 34) (by decide +kernel)) rfl, lw_g_in (List.mem_of_getElem? (i := 131) (by decide +kernel)) rfl, by decide +kernel⟩
set_option maxRecDepth 20000 in
theorem cv_X2_80 : CLV RX2 80 8 yX9_hasBlock 1 := ⟨TX9, 15, rfl, lw_g_in (List.mem_of_getElem? (i := 928) (by decide +kernel)) rfl, lw_g_in (List.mem_of_getElem? (i := 750) (by decide +kernel)) rfl, lw_g_in (List.mem_of_getElem? (i := 751) (by decide +kernel)) rfl, lw_g_in (List.mem_of_getElem? (i := 126) (by decide +kernel)) rfl, by decide +kernel⟩
set_option maxRecDepth 20000 in
theorem cv_X2_90 : CLV RX2 90 3 yX4_get 2 := ⟨TX4, 3, rfl, lw_g_in (List.mem_of_getElem? (i := 929) (by decide +kernel)) rfl, lw_g_in (List.mem_of_getElem? (i := 754) (by decide +kernel)) rfl, lw_g_in (List.mem_of_getElem? (i := 755) (by decide +kernel)) rfl, lw_g_in (List.mem_of_getElem? (i := 128) (by decide +kernel)) rfl, by decide +kernel⟩
set_option maxRecDepth 20000 in
theorem cs_X2_95 : CLS RX2 95 yJ6_bitCount_0f7a4 1 := ⟨lw_g_in (List.mem_of_getElem? (i := 930) (by decide +kernel)) rfl, lw_g_in (List.mem_of_getElem? (i := 931) (by decide +kernel)) rfl, lw_g_in (List.mem_of_getElem? (i := 143) (by decide +kernel)) rfl, by decide +kernel⟩
set_option maxRecDepth 20000 in
theorem cs_X2_110 : CLS RX2 110 yJ9_min_f86c9 2 := ⟨lw_g_in (List.mem_of_getElem? (i := 946) (by decide +kernel)) rfl, lw_g_in (List.mem_of_getElem? (i := 947) (by decide +kernel)) rfl, lw_g_in (List.mem_of_getElem? (i := 129) (by decide +kernel)) rfl, by decide +kernel⟩
set_option maxRecDepth 20000 in
theorem cs_X2_113 : CLS RX2 113 yJ9_max_f86c9 2 := ⟨lw_g_in (List.mem_of_getElem? (i := 949) (by decide +kernel)) rfl, lw_g_in (List.mem_of_getElem? (i := 950) (by decide +kernel)) rfl, lw_g_in (List.mem_of_getElem? (i := 129) (by decide +kernel)) rfl, by decide +kernel⟩
