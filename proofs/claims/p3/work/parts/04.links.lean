theorem fl1 : Cond.fieldLink RX12 1 RX12 (TX12 4).2.1 (TX12 4).2.2.1 ∈ lw_g := (mem_t (List.mem_of_getElem? (i := 1544) (by decide +kernel)) rfl)
theorem fl7 : Cond.fieldLink RX12 7 RX12 (TX12 2).2.1 (TX12 2).2.2.1 ∈ lw_g := (mem_t (List.mem_of_getElem? (i := 1542) (by decide +kernel)) rfl)
theorem fl11 : Cond.fieldLink RX12 11 RX12 (TX12 3).2.1 (TX12 3).2.2.1 ∈ lw_g := (mem_t (List.mem_of_getElem? (i := 1543) (by decide +kernel)) rfl)
theorem fl14 : Cond.fieldLink RX12 14 RX12 (TX12 5).2.1 (TX12 5).2.2.1 ∈ lw_g := (mem_t (List.mem_of_getElem? (i := 1545) (by decide +kernel)) rfl)
theorem fl17 : Cond.fieldLink RX12 17 RX12 (TX12 6).2.1 (TX12 6).2.2.1 ∈ lw_g := (mem_t (List.mem_of_getElem? (i := 1546) (by decide +kernel)) rfl)
theorem fl56 : Cond.fieldLink RX12 56 RX12 (TX12 9).2.1 (TX12 9).2.2.1 ∈ lw_g := (mem_t (List.mem_of_getElem? (i := 1549) (by decide +kernel)) rfl)
theorem fl59 : Cond.fieldLink RX12 59 RX12 (TX12 8).2.1 (TX12 8).2.2.1 ∈ lw_g := (mem_t (List.mem_of_getElem? (i := 1548) (by decide +kernel)) rfl)
theorem fl66 : Cond.fieldLink RX12 66 RX12 (TX12 7).2.1 (TX12 7).2.2.1 ∈ lw_g := (mem_t (List.mem_of_getElem? (i := 1547) (by decide +kernel)) rfl)
theorem fl76 : Cond.fieldLink RX12 76 RX12 (TX12 11).2.1 (TX12 11).2.2.1 ∈ lw_g := (mem_t (List.mem_of_getElem? (i := 1551) (by decide +kernel)) rfl)
theorem fl91 : Cond.fieldLink RX12 91 RX12 (TX12 10).2.1 (TX12 10).2.2.1 ∈ lw_g := (mem_t (List.mem_of_getElem? (i := 1550) (by decide +kernel)) rfl)
theorem fl108 : Cond.fieldLink RX12 108 RX12 (TX12 15).2.1 (TX12 15).2.2.1 ∈ lw_g := (mem_t (List.mem_of_getElem? (i := 1555) (by decide +kernel)) rfl)
theorem fl111 : Cond.fieldLink RX12 111 RX12 (TX12 12).2.1 (TX12 12).2.2.1 ∈ lw_g := (mem_t (List.mem_of_getElem? (i := 1552) (by decide +kernel)) rfl)
theorem fl135 : Cond.fieldLink RX12 135 RX12 (TX12 0).2.1 (TX12 0).2.2.1 ∈ lw_g := (mem_t (List.mem_of_getElem? (i := 1540) (by decide +kernel)) rfl)
theorem fl138 : Cond.fieldLink RX12 138 RX12 (TX12 13).2.1 (TX12 13).2.2.1 ∈ lw_g := (mem_t (List.mem_of_getElem? (i := 1553) (by decide +kernel)) rfl)
theorem fl142 : Cond.fieldLink RX12 142 RX12 (TX12 14).2.1 (TX12 14).2.2.1 ∈ lw_g := (mem_t (List.mem_of_getElem? (i := 1554) (by decide +kernel)) rfl)
theorem fl145 : Cond.fieldLink RX12 145 RX12 (TX12 16).2.1 (TX12 16).2.2.1 ∈ lw_g := (mem_t (List.mem_of_getElem? (i := 1556) (by decide +kernel)) rfl)
theorem fl148 : Cond.fieldLink RX12 148 RX12 (TX12 17).2.1 (TX12 17).2.2.1 ∈ lw_g := (mem_t (List.mem_of_getElem? (i := 1557) (by decide +kernel)) rfl)
theorem fl151 : Cond.fieldLink RX12 151 RX12 (TX12 18).2.1 (TX12 18).2.2.1 ∈ lw_g := (mem_t (List.mem_of_getElem? (i := 1558) (by decide +kernel)) rfl)
theorem fl154 : Cond.fieldLink RX12 154 RX12 (TX12 19).2.1 (TX12 19).2.2.1 ∈ lw_g := (mem_t (List.mem_of_getElem? (i := 1559) (by decide +kernel)) rfl)
theorem fl157 : Cond.fieldLink RX12 157 RX12 (TX12 20).2.1 (TX12 20).2.2.1 ∈ lw_g := (mem_t (List.mem_of_getElem? (i := 1560) (by decide +kernel)) rfl)
theorem fl160 : Cond.fieldLink RX12 160 RX12 (TX12 21).2.1 (TX12 21).2.2.1 ∈ lw_g := (mem_t (List.mem_of_getElem? (i := 1561) (by decide +kernel)) rfl)
theorem fl163 : Cond.fieldLink RX12 163 RX12 (TX12 23).2.1 (TX12 23).2.2.1 ∈ lw_g := (mem_t (List.mem_of_getElem? (i := 1563) (by decide +kernel)) rfl)
theorem fl166 : Cond.fieldLink RX12 166 RX12 (TX12 24).2.1 (TX12 24).2.2.1 ∈ lw_g := (mem_t (List.mem_of_getElem? (i := 1564) (by decide +kernel)) rfl)
theorem fl169 : Cond.fieldLink RX12 169 RX12 (TX12 25).2.1 (TX12 25).2.2.1 ∈ lw_g := (mem_t (List.mem_of_getElem? (i := 1565) (by decide +kernel)) rfl)
theorem fl172 : Cond.fieldLink RX12 172 RX12 (TX12 26).2.1 (TX12 26).2.2.1 ∈ lw_g := (mem_t (List.mem_of_getElem? (i := 1566) (by decide +kernel)) rfl)
theorem fl175 : Cond.fieldLink RX12 175 RX12 (TX12 27).2.1 (TX12 27).2.2.1 ∈ lw_g := (mem_t (List.mem_of_getElem? (i := 1567) (by decide +kernel)) rfl)
theorem fl178 : Cond.fieldLink RX12 178 RX12 (TX12 28).2.1 (TX12 28).2.2.1 ∈ lw_g := (mem_t (List.mem_of_getElem? (i := 1568) (by decide +kernel)) rfl)
theorem fl181 : Cond.fieldLink RX12 181 RX12 (TX12 29).2.1 (TX12 29).2.2.1 ∈ lw_g := (mem_t (List.mem_of_getElem? (i := 1569) (by decide +kernel)) rfl)
theorem fl184 : Cond.fieldLink RX12 184 RX12 (TX12 30).2.1 (TX12 30).2.2.1 ∈ lw_g := (mem_t (List.mem_of_getElem? (i := 1570) (by decide +kernel)) rfl)
theorem fl187 : Cond.fieldLink RX12 187 RX12 (TX12 31).2.1 (TX12 31).2.2.1 ∈ lw_g := (mem_t (List.mem_of_getElem? (i := 1571) (by decide +kernel)) rfl)
theorem fl190 : Cond.fieldLink RX12 190 RX12 (TX12 32).2.1 (TX12 32).2.2.1 ∈ lw_g := (mem_t (List.mem_of_getElem? (i := 1572) (by decide +kernel)) rfl)
theorem fl193 : Cond.fieldLink RX12 193 RX12 (TX12 33).2.1 (TX12 33).2.2.1 ∈ lw_g := (mem_t (List.mem_of_getElem? (i := 1573) (by decide +kernel)) rfl)
theorem fl196 : Cond.fieldLink RX12 196 RX12 (TX12 34).2.1 (TX12 34).2.2.1 ∈ lw_g := (mem_t (List.mem_of_getElem? (i := 1574) (by decide +kernel)) rfl)
theorem fl199 : Cond.fieldLink RX12 199 RX12 (TX12 35).2.1 (TX12 35).2.2.1 ∈ lw_g := (mem_t (List.mem_of_getElem? (i := 1575) (by decide +kernel)) rfl)
theorem fl202 : Cond.fieldLink RX12 202 RX12 (TX12 36).2.1 (TX12 36).2.2.1 ∈ lw_g := (mem_t (List.mem_of_getElem? (i := 1576) (by decide +kernel)) rfl)
theorem fl205 : Cond.fieldLink RX12 205 RX12 (TX12 37).2.1 (TX12 37).2.2.1 ∈ lw_g := (mem_t (List.mem_of_getElem? (i := 1577) (by decide +kernel)) rfl)
theorem fl208 : Cond.fieldLink RX12 208 RX12 (TX12 38).2.1 (TX12 38).2.2.1 ∈ lw_g := (mem_t (List.mem_of_getElem? (i := 1578) (by decide +kernel)) rfl)
theorem fl211 : Cond.fieldLink RX12 211 RX12 (TX12 39).2.1 (TX12 39).2.2.1 ∈ lw_g := (mem_t (List.mem_of_getElem? (i := 1579) (by decide +kernel)) rfl)
theorem fl214 : Cond.fieldLink RX12 214 RX12 (TX12 40).2.1 (TX12 40).2.2.1 ∈ lw_g := (mem_t (List.mem_of_getElem? (i := 1580) (by decide +kernel)) rfl)
theorem fl217 : Cond.fieldLink RX12 217 RX12 (TX12 41).2.1 (TX12 41).2.2.1 ∈ lw_g := (mem_t (List.mem_of_getElem? (i := 1581) (by decide +kernel)) rfl)
theorem fl220 : Cond.fieldLink RX12 220 RX12 (TX12 42).2.1 (TX12 42).2.2.1 ∈ lw_g := (mem_t (List.mem_of_getElem? (i := 1582) (by decide +kernel)) rfl)
theorem fl223 : Cond.fieldLink RX12 223 RX12 (TX12 43).2.1 (TX12 43).2.2.1 ∈ lw_g := (mem_t (List.mem_of_getElem? (i := 1583) (by decide +kernel)) rfl)
theorem fl226 : Cond.fieldLink RX12 226 RX12 (TX12 44).2.1 (TX12 44).2.2.1 ∈ lw_g := (mem_t (List.mem_of_getElem? (i := 1584) (by decide +kernel)) rfl)
theorem fl229 : Cond.fieldLink RX12 229 RX12 (TX12 45).2.1 (TX12 45).2.2.1 ∈ lw_g := (mem_t (List.mem_of_getElem? (i := 1585) (by decide +kernel)) rfl)
theorem fl232 : Cond.fieldLink RX12 232 RX12 (TX12 46).2.1 (TX12 46).2.2.1 ∈ lw_g := (mem_t (List.mem_of_getElem? (i := 1586) (by decide +kernel)) rfl)
theorem fl235 : Cond.fieldLink RX12 235 RX12 (TX12 47).2.1 (TX12 47).2.2.1 ∈ lw_g := (mem_t (List.mem_of_getElem? (i := 1587) (by decide +kernel)) rfl)
theorem fl238 : Cond.fieldLink RX12 238 RX12 (TX12 48).2.1 (TX12 48).2.2.1 ∈ lw_g := (mem_t (List.mem_of_getElem? (i := 1588) (by decide +kernel)) rfl)
theorem fl241 : Cond.fieldLink RX12 241 RX12 (TX12 49).2.1 (TX12 49).2.2.1 ∈ lw_g := (mem_t (List.mem_of_getElem? (i := 1589) (by decide +kernel)) rfl)
theorem fl244 : Cond.fieldLink RX12 244 RX12 (TX12 50).2.1 (TX12 50).2.2.1 ∈ lw_g := (mem_t (List.mem_of_getElem? (i := 1590) (by decide +kernel)) rfl)
theorem fl247 : Cond.fieldLink RX12 247 RX12 (TX12 51).2.1 (TX12 51).2.2.1 ∈ lw_g := (mem_t (List.mem_of_getElem? (i := 1591) (by decide +kernel)) rfl)
theorem fl250 : Cond.fieldLink RX12 250 RX12 (TX12 52).2.1 (TX12 52).2.2.1 ∈ lw_g := (mem_t (List.mem_of_getElem? (i := 1592) (by decide +kernel)) rfl)
theorem fl253 : Cond.fieldLink RX12 253 RX12 (TX12 53).2.1 (TX12 53).2.2.1 ∈ lw_g := (mem_t (List.mem_of_getElem? (i := 1593) (by decide +kernel)) rfl)
theorem fl257 : Cond.fieldLink RX12 257 RX12 (TX12 54).2.1 (TX12 54).2.2.1 ∈ lw_g := (mem_t (List.mem_of_getElem? (i := 1594) (by decide +kernel)) rfl)
theorem fl260 : Cond.fieldLink RX12 260 RX12 (TX12 55).2.1 (TX12 55).2.2.1 ∈ lw_g := (mem_t (List.mem_of_getElem? (i := 1595) (by decide +kernel)) rfl)
theorem fl263 : Cond.fieldLink RX12 263 RX12 (TX12 64).2.1 (TX12 64).2.2.1 ∈ lw_g := (mem_t (List.mem_of_getElem? (i := 1604) (by decide +kernel)) rfl)
theorem fl266 : Cond.fieldLink RX12 266 RX12 (TX12 65).2.1 (TX12 65).2.2.1 ∈ lw_g := (mem_t (List.mem_of_getElem? (i := 1605) (by decide +kernel)) rfl)
theorem fl269 : Cond.fieldLink RX12 269 RX12 (TX12 66).2.1 (TX12 66).2.2.1 ∈ lw_g := (mem_t (List.mem_of_getElem? (i := 1606) (by decide +kernel)) rfl)
theorem fl272 : Cond.fieldLink RX12 272 RX12 (TX12 67).2.1 (TX12 67).2.2.1 ∈ lw_g := (mem_t (List.mem_of_getElem? (i := 1607) (by decide +kernel)) rfl)
theorem fl275 : Cond.fieldLink RX12 275 RX12 (TX12 68).2.1 (TX12 68).2.2.1 ∈ lw_g := (mem_t (List.mem_of_getElem? (i := 1608) (by decide +kernel)) rfl)
theorem fl278 : Cond.fieldLink RX12 278 RX12 (TX12 69).2.1 (TX12 69).2.2.1 ∈ lw_g := (mem_t (List.mem_of_getElem? (i := 1609) (by decide +kernel)) rfl)
theorem fl281 : Cond.fieldLink RX12 281 RX12 (TX12 70).2.1 (TX12 70).2.2.1 ∈ lw_g := (mem_t (List.mem_of_getElem? (i := 1610) (by decide +kernel)) rfl)
theorem fl284 : Cond.fieldLink RX12 284 RX12 (TX12 71).2.1 (TX12 71).2.2.1 ∈ lw_g := (mem_t (List.mem_of_getElem? (i := 1611) (by decide +kernel)) rfl)
theorem fl288 : Cond.fieldLink RX12 288 RX12 (TX12 72).2.1 (TX12 72).2.2.1 ∈ lw_g := (mem_t (List.mem_of_getElem? (i := 1612) (by decide +kernel)) rfl)
theorem fl291 : Cond.fieldLink RX12 291 RX12 (TX12 73).2.1 (TX12 73).2.2.1 ∈ lw_g := (mem_t (List.mem_of_getElem? (i := 1613) (by decide +kernel)) rfl)
theorem fl294 : Cond.fieldLink RX12 294 RX12 (TX12 74).2.1 (TX12 74).2.2.1 ∈ lw_g := (mem_t (List.mem_of_getElem? (i := 1614) (by decide +kernel)) rfl)
theorem fl297 : Cond.fieldLink RX12 297 RX12 (TX12 75).2.1 (TX12 75).2.2.1 ∈ lw_g := (mem_t (List.mem_of_getElem? (i := 1615) (by decide +kernel)) rfl)
theorem fl300 : Cond.fieldLink RX12 300 RX12 (TX12 76).2.1 (TX12 76).2.2.1 ∈ lw_g := (mem_t (List.mem_of_getElem? (i := 1616) (by decide +kernel)) rfl)
theorem fl303 : Cond.fieldLink RX12 303 RX12 (TX12 79).2.1 (TX12 79).2.2.1 ∈ lw_g := (mem_t (List.mem_of_getElem? (i := 1619) (by decide +kernel)) rfl)
theorem fl306 : Cond.fieldLink RX12 306 RX12 (TX12 80).2.1 (TX12 80).2.2.1 ∈ lw_g := (mem_t (List.mem_of_getElem? (i := 1620) (by decide +kernel)) rfl)
theorem fl309 : Cond.fieldLink RX12 309 RX12 (TX12 81).2.1 (TX12 81).2.2.1 ∈ lw_g := (mem_t (List.mem_of_getElem? (i := 1621) (by decide +kernel)) rfl)
theorem fl312 : Cond.fieldLink RX12 312 RX12 (TX12 82).2.1 (TX12 82).2.2.1 ∈ lw_g := (mem_t (List.mem_of_getElem? (i := 1622) (by decide +kernel)) rfl)
theorem fl315 : Cond.fieldLink RX12 315 RX12 (TX12 83).2.1 (TX12 83).2.2.1 ∈ lw_g := (mem_t (List.mem_of_getElem? (i := 1623) (by decide +kernel)) rfl)
theorem fl318 : Cond.fieldLink RX12 318 RX12 (TX12 84).2.1 (TX12 84).2.2.1 ∈ lw_g := (mem_t (List.mem_of_getElem? (i := 1624) (by decide +kernel)) rfl)
theorem fl321 : Cond.fieldLink RX12 321 RX12 (TX12 85).2.1 (TX12 85).2.2.1 ∈ lw_g := (mem_t (List.mem_of_getElem? (i := 1625) (by decide +kernel)) rfl)
theorem fl324 : Cond.fieldLink RX12 324 RX12 (TX12 86).2.1 (TX12 86).2.2.1 ∈ lw_g := (mem_t (List.mem_of_getElem? (i := 1626) (by decide +kernel)) rfl)
theorem fl327 : Cond.fieldLink RX12 327 RX12 (TX12 87).2.1 (TX12 87).2.2.1 ∈ lw_g := (mem_t (List.mem_of_getElem? (i := 1627) (by decide +kernel)) rfl)
theorem fl331 : Cond.fieldLink RX12 331 RX12 (TX12 88).2.1 (TX12 88).2.2.1 ∈ lw_g := (mem_t (List.mem_of_getElem? (i := 1628) (by decide +kernel)) rfl)
theorem fl334 : Cond.fieldLink RX12 334 RX12 (TX12 89).2.1 (TX12 89).2.2.1 ∈ lw_g := (mem_t (List.mem_of_getElem? (i := 1629) (by decide +kernel)) rfl)
theorem fl337 : Cond.fieldLink RX12 337 RX12 (TX12 91).2.1 (TX12 91).2.2.1 ∈ lw_g := (mem_t (List.mem_of_getElem? (i := 1631) (by decide +kernel)) rfl)
theorem fl340 : Cond.fieldLink RX12 340 RX12 (TX12 92).2.1 (TX12 92).2.2.1 ∈ lw_g := (mem_t (List.mem_of_getElem? (i := 1632) (by decide +kernel)) rfl)
theorem fl343 : Cond.fieldLink RX12 343 RX12 (TX12 93).2.1 (TX12 93).2.2.1 ∈ lw_g := (mem_t (List.mem_of_getElem? (i := 1633) (by decide +kernel)) rfl)
theorem fl346 : Cond.fieldLink RX12 346 RX12 (TX12 94).2.1 (TX12 94).2.2.1 ∈ lw_g := (mem_t (List.mem_of_getElem? (i := 1634) (by decide +kernel)) rfl)
theorem fl349 : Cond.fieldLink RX12 349 RX12 (TX12 95).2.1 (TX12 95).2.2.1 ∈ lw_g := (mem_t (List.mem_of_getElem? (i := 1635) (by decide +kernel)) rfl)
theorem fl352 : Cond.fieldLink RX12 352 RX12 (TX12 96).2.1 (TX12 96).2.2.1 ∈ lw_g := (mem_t (List.mem_of_getElem? (i := 1636) (by decide +kernel)) rfl)
theorem fl355 : Cond.fieldLink RX12 355 RX12 (TX12 106).2.1 (TX12 106).2.2.1 ∈ lw_g := (mem_t (List.mem_of_getElem? (i := 1646) (by decide +kernel)) rfl)
theorem fl358 : Cond.fieldLink RX12 358 RX12 (TX12 107).2.1 (TX12 107).2.2.1 ∈ lw_g := (mem_t (List.mem_of_getElem? (i := 1647) (by decide +kernel)) rfl)
theorem fl361 : Cond.fieldLink RX12 361 RX12 (TX12 108).2.1 (TX12 108).2.2.1 ∈ lw_g := (mem_t (List.mem_of_getElem? (i := 1648) (by decide +kernel)) rfl)
theorem fl364 : Cond.fieldLink RX12 364 RX12 (TX12 109).2.1 (TX12 109).2.2.1 ∈ lw_g := (mem_t (List.mem_of_getElem? (i := 1649) (by decide +kernel)) rfl)
theorem fl367 : Cond.fieldLink RX12 367 RX12 (TX12 110).2.1 (TX12 110).2.2.1 ∈ lw_g := (mem_t (List.mem_of_getElem? (i := 1650) (by decide +kernel)) rfl)
theorem fl370 : Cond.fieldLink RX12 370 RX12 (TX12 111).2.1 (TX12 111).2.2.1 ∈ lw_g := (mem_t (List.mem_of_getElem? (i := 1651) (by decide +kernel)) rfl)
theorem fl373 : Cond.fieldLink RX12 373 RX12 (TX12 112).2.1 (TX12 112).2.2.1 ∈ lw_g := (mem_t (List.mem_of_getElem? (i := 1652) (by decide +kernel)) rfl)
theorem fl376 : Cond.fieldLink RX12 376 RX12 (TX12 113).2.1 (TX12 113).2.2.1 ∈ lw_g := (mem_t (List.mem_of_getElem? (i := 1653) (by decide +kernel)) rfl)
theorem fl379 : Cond.fieldLink RX12 379 RX12 (TX12 114).2.1 (TX12 114).2.2.1 ∈ lw_g := (mem_t (List.mem_of_getElem? (i := 1654) (by decide +kernel)) rfl)
theorem fl382 : Cond.fieldLink RX12 382 RX12 (TX12 115).2.1 (TX12 115).2.2.1 ∈ lw_g := (mem_t (List.mem_of_getElem? (i := 1655) (by decide +kernel)) rfl)
theorem fl385 : Cond.fieldLink RX12 385 RX12 (TX12 116).2.1 (TX12 116).2.2.1 ∈ lw_g := (mem_t (List.mem_of_getElem? (i := 1656) (by decide +kernel)) rfl)
theorem fl389 : Cond.fieldLink RX12 389 RX12 (TX12 117).2.1 (TX12 117).2.2.1 ∈ lw_g := (mem_t (List.mem_of_getElem? (i := 1657) (by decide +kernel)) rfl)
theorem fl392 : Cond.fieldLink RX12 392 RX12 (TX12 118).2.1 (TX12 118).2.2.1 ∈ lw_g := (mem_t (List.mem_of_getElem? (i := 1658) (by decide +kernel)) rfl)
theorem fl395 : Cond.fieldLink RX12 395 RX12 (TX12 119).2.1 (TX12 119).2.2.1 ∈ lw_g := (mem_t (List.mem_of_getElem? (i := 1659) (by decide +kernel)) rfl)
theorem fl398 : Cond.fieldLink RX12 398 RX12 (TX12 120).2.1 (TX12 120).2.2.1 ∈ lw_g := (mem_t (List.mem_of_getElem? (i := 1660) (by decide +kernel)) rfl)
theorem fl401 : Cond.fieldLink RX12 401 RX12 (TX12 121).2.1 (TX12 121).2.2.1 ∈ lw_g := (mem_t (List.mem_of_getElem? (i := 1661) (by decide +kernel)) rfl)
theorem fl404 : Cond.fieldLink RX12 404 RX12 (TX12 122).2.1 (TX12 122).2.2.1 ∈ lw_g := (mem_t (List.mem_of_getElem? (i := 1662) (by decide +kernel)) rfl)
theorem fl407 : Cond.fieldLink RX12 407 RX12 (TX12 123).2.1 (TX12 123).2.2.1 ∈ lw_g := (mem_t (List.mem_of_getElem? (i := 1663) (by decide +kernel)) rfl)
theorem fl410 : Cond.fieldLink RX12 410 RX12 (TX12 126).2.1 (TX12 126).2.2.1 ∈ lw_g := (mem_t (List.mem_of_getElem? (i := 1666) (by decide +kernel)) rfl)
theorem fl415 : Cond.fieldLink RX12 415 RX12 (TX12 22).2.1 (TX12 22).2.2.1 ∈ lw_g := (mem_t (List.mem_of_getElem? (i := 1562) (by decide +kernel)) rfl)
theorem fl418 : Cond.fieldLink RX12 418 RX12 (TX12 62).2.1 (TX12 62).2.2.1 ∈ lw_g := (mem_t (List.mem_of_getElem? (i := 1602) (by decide +kernel)) rfl)
theorem fl439 : Cond.fieldLink RX12 439 RX12 (TX12 56).2.1 (TX12 56).2.2.1 ∈ lw_g := (mem_t (List.mem_of_getElem? (i := 1596) (by decide +kernel)) rfl)
theorem fl446 : Cond.fieldLink RX12 446 RX12 (TX12 57).2.1 (TX12 57).2.2.1 ∈ lw_g := (mem_t (List.mem_of_getElem? (i := 1597) (by decide +kernel)) rfl)
theorem fl449 : Cond.fieldLink RX12 449 RX12 (TX12 63).2.1 (TX12 63).2.2.1 ∈ lw_g := (mem_t (List.mem_of_getElem? (i := 1603) (by decide +kernel)) rfl)
theorem fl462 : Cond.fieldLink RX12 462 RX12 (TX12 58).2.1 (TX12 58).2.2.1 ∈ lw_g := (mem_t (List.mem_of_getElem? (i := 1598) (by decide +kernel)) rfl)
theorem fl472 : Cond.fieldLink RX12 472 RX12 (TX12 59).2.1 (TX12 59).2.2.1 ∈ lw_g := (mem_t (List.mem_of_getElem? (i := 1599) (by decide +kernel)) rfl)
theorem fl478 : Cond.fieldLink RX12 478 RX12 (TX12 60).2.1 (TX12 60).2.2.1 ∈ lw_g := (mem_t (List.mem_of_getElem? (i := 1600) (by decide +kernel)) rfl)
theorem fl481 : Cond.fieldLink RX12 481 RX12 (TX12 61).2.1 (TX12 61).2.2.1 ∈ lw_g := (mem_t (List.mem_of_getElem? (i := 1601) (by decide +kernel)) rfl)
theorem fl512 : Cond.fieldLink RX12 512 RX12 (TX12 1).2.1 (TX12 1).2.2.1 ∈ lw_g := (mem_t (List.mem_of_getElem? (i := 1541) (by decide +kernel)) rfl)
theorem fl524 : Cond.fieldLink RX12 524 RX12 (TX12 90).2.1 (TX12 90).2.2.1 ∈ lw_g := (mem_t (List.mem_of_getElem? (i := 1630) (by decide +kernel)) rfl)
theorem fl527 : Cond.fieldLink RX12 527 RX12 (TX12 97).2.1 (TX12 97).2.2.1 ∈ lw_g := (mem_t (List.mem_of_getElem? (i := 1637) (by decide +kernel)) rfl)
theorem fl530 : Cond.fieldLink RX12 530 RX12 (TX12 99).2.1 (TX12 99).2.2.1 ∈ lw_g := (mem_t (List.mem_of_getElem? (i := 1639) (by decide +kernel)) rfl)
theorem fl534 : Cond.fieldLink RX12 534 RX12 (TX12 101).2.1 (TX12 101).2.2.1 ∈ lw_g := (mem_t (List.mem_of_getElem? (i := 1641) (by decide +kernel)) rfl)
theorem fl537 : Cond.fieldLink RX12 537 RX12 (TX12 103).2.1 (TX12 103).2.2.1 ∈ lw_g := (mem_t (List.mem_of_getElem? (i := 1643) (by decide +kernel)) rfl)
theorem fl547 : Cond.fieldLink RX12 547 RX12 (TX12 77).2.1 (TX12 77).2.2.1 ∈ lw_g := (mem_t (List.mem_of_getElem? (i := 1617) (by decide +kernel)) rfl)
theorem fl550 : Cond.fieldLink RX12 550 RX12 (TX12 78).2.1 (TX12 78).2.2.1 ∈ lw_g := (mem_t (List.mem_of_getElem? (i := 1618) (by decide +kernel)) rfl)
theorem fl601 : Cond.fieldLink RX12 601 RX12 (TX12 98).2.1 (TX12 98).2.2.1 ∈ lw_g := (mem_t (List.mem_of_getElem? (i := 1638) (by decide +kernel)) rfl)
theorem fl611 : Cond.fieldLink RX12 611 RX12 (TX12 100).2.1 (TX12 100).2.2.1 ∈ lw_g := (mem_t (List.mem_of_getElem? (i := 1640) (by decide +kernel)) rfl)
theorem fl614 : Cond.fieldLink RX12 614 RX12 (TX12 102).2.1 (TX12 102).2.2.1 ∈ lw_g := (mem_t (List.mem_of_getElem? (i := 1642) (by decide +kernel)) rfl)
theorem fl617 : Cond.fieldLink RX12 617 RX12 (TX12 104).2.1 (TX12 104).2.2.1 ∈ lw_g := (mem_t (List.mem_of_getElem? (i := 1644) (by decide +kernel)) rfl)
theorem fl620 : Cond.fieldLink RX12 620 RX12 (TX12 105).2.1 (TX12 105).2.2.1 ∈ lw_g := (mem_t (List.mem_of_getElem? (i := 1645) (by decide +kernel)) rfl)
theorem fl626 : Cond.fieldLink RX12 626 RX12 (TX12 125).2.1 (TX12 125).2.2.1 ∈ lw_g := (mem_t (List.mem_of_getElem? (i := 1665) (by decide +kernel)) rfl)
theorem fl632 : Cond.fieldLink RX12 632 RX12 (TX12 124).2.1 (TX12 124).2.2.1 ∈ lw_g := (mem_t (List.mem_of_getElem? (i := 1664) (by decide +kernel)) rfl)
theorem fl654 : Cond.fieldLink RX12 654 RX12 (TX12 127).2.1 (TX12 127).2.2.1 ∈ lw_g := (mem_t (List.mem_of_getElem? (i := 1667) (by decide +kernel)) rfl)
theorem fl692 : Cond.fieldLink RX12 692 RX12 (TX12 128).2.1 (TX12 128).2.2.1 ∈ lw_g := (mem_t (List.mem_of_getElem? (i := 1668) (by decide +kernel)) rfl)
theorem ok_sign : okC RX12 62 yX12_sign cX12_sign 2 (some .int) := ⟨(mem_t (List.mem_of_getElem? (i := 1940) (by decide +kernel)) rfl), (mem_t (List.mem_of_getElem? (i := 1942) (by decide +kernel)) rfl), (mem_s (List.mem_of_getElem? (i := 55) (by decide +kernel)) rfl), (mem_t (List.mem_of_getElem? (i := 13) (by decide +kernel)) rfl), (mem_t (List.mem_of_getElem? (i := 1943) (by decide +kernel)) rfl)⟩
theorem ok_isLetter : okS RX12 69 yX12_isLetter cX12_isLetter 1 (some .boolean) := ⟨(mem_t (List.mem_of_getElem? (i := 1944) (by decide +kernel)) rfl), (mem_t (List.mem_of_getElem? (i := 1945) (by decide +kernel)) rfl), (mem_t (List.mem_of_getElem? (i := 13) (by decide +kernel)) rfl), (mem_t (List.mem_of_getElem? (i := 1946) (by decide +kernel)) rfl)⟩
theorem ok_isDigit : okS RX12 73 yX12_isDigit cX12_isDigit 1 (some .boolean) := ⟨(mem_t (List.mem_of_getElem? (i := 1947) (by decide +kernel)) rfl), (mem_t (List.mem_of_getElem? (i := 1948) (by decide +kernel)) rfl), (mem_t (List.mem_of_getElem? (i := 13) (by decide +kernel)) rfl), (mem_t (List.mem_of_getElem? (i := 1949) (by decide +kernel)) rfl)⟩
theorem ok_isKept : okS RX12 80 yX12_isKept cX12_isKept 2 (some .boolean) := ⟨(mem_t (List.mem_of_getElem? (i := 1950) (by decide +kernel)) rfl), (mem_t (List.mem_of_getElem? (i := 1951) (by decide +kernel)) rfl), (mem_t (List.mem_of_getElem? (i := 13) (by decide +kernel)) rfl), (mem_t (List.mem_of_getElem? (i := 1952) (by decide +kernel)) rfl)⟩
theorem ok_nextNumber : okC RX12 84 yX12_nextNumber cX12_nextNumber 3 none := ⟨(mem_t (List.mem_of_getElem? (i := 1963) (by decide +kernel)) rfl), (mem_t (List.mem_of_getElem? (i := 1965) (by decide +kernel)) rfl), (mem_s (List.mem_of_getElem? (i := 56) (by decide +kernel)) rfl), (mem_t (List.mem_of_getElem? (i := 13) (by decide +kernel)) rfl), (mem_t (List.mem_of_getElem? (i := 1966) (by decide +kernel)) rfl)⟩
theorem ok_isSignOf : okS RX12 88 yX12_isSignOf cX12_isSignOf 1 (some .boolean) := ⟨(mem_t (List.mem_of_getElem? (i := 1967) (by decide +kernel)) rfl), (mem_t (List.mem_of_getElem? (i := 1968) (by decide +kernel)) rfl), (mem_t (List.mem_of_getElem? (i := 13) (by decide +kernel)) rfl), (mem_t (List.mem_of_getElem? (i := 1969) (by decide +kernel)) rfl)⟩
theorem ok_fails : okC RX12 94 yX12_fails cX12_fails 3 (some .boolean) := ⟨(mem_t (List.mem_of_getElem? (i := 1978) (by decide +kernel)) rfl), (mem_t (List.mem_of_getElem? (i := 1980) (by decide +kernel)) rfl), (mem_s (List.mem_of_getElem? (i := 59) (by decide +kernel)) rfl), (mem_t (List.mem_of_getElem? (i := 13) (by decide +kernel)) rfl), (mem_t (List.mem_of_getElem? (i := 1981) (by decide +kernel)) rfl)⟩
theorem ok_isSign : okC RX12 98 yX12_isSign cX12_isSign 2 (some .boolean) := ⟨(mem_t (List.mem_of_getElem? (i := 2005) (by decide +kernel)) rfl), (mem_t (List.mem_of_getElem? (i := 2007) (by decide +kernel)) rfl), (mem_s (List.mem_of_getElem? (i := 63) (by decide +kernel)) rfl), (mem_t (List.mem_of_getElem? (i := 13) (by decide +kernel)) rfl), (mem_t (List.mem_of_getElem? (i := 2008) (by decide +kernel)) rfl)⟩
theorem ok_wrong : okC RX12 101 yX12_wrong cX12_wrong 1 none := ⟨(mem_t (List.mem_of_getElem? (i := 1974) (by decide +kernel)) rfl), (mem_t (List.mem_of_getElem? (i := 1976) (by decide +kernel)) rfl), (mem_s (List.mem_of_getElem? (i := 58) (by decide +kernel)) rfl), (mem_t (List.mem_of_getElem? (i := 13) (by decide +kernel)) rfl), (mem_t (List.mem_of_getElem? (i := 1977) (by decide +kernel)) rfl)⟩
theorem ok_next : okC RX12 105 yX12_next cX12_next 3 none := ⟨(mem_t (List.mem_of_getElem? (i := 1936) (by decide +kernel)) rfl), (mem_t (List.mem_of_getElem? (i := 1938) (by decide +kernel)) rfl), (mem_s (List.mem_of_getElem? (i := 54) (by decide +kernel)) rfl), (mem_t (List.mem_of_getElem? (i := 13) (by decide +kernel)) rfl), (mem_t (List.mem_of_getElem? (i := 1939) (by decide +kernel)) rfl)⟩
theorem ok_isGood : okC RX12 115 yX12_isGood cX12_isGood 1 (some .boolean) := ⟨(mem_t (List.mem_of_getElem? (i := 1970) (by decide +kernel)) rfl), (mem_t (List.mem_of_getElem? (i := 1972) (by decide +kernel)) rfl), (mem_s (List.mem_of_getElem? (i := 57) (by decide +kernel)) rfl), (mem_t (List.mem_of_getElem? (i := 13) (by decide +kernel)) rfl), (mem_t (List.mem_of_getElem? (i := 1973) (by decide +kernel)) rfl)⟩
theorem ok_nameOf : okC RX12 119 yX12_nameOf cX12_nameOf 4 (some .int) := ⟨(mem_t (List.mem_of_getElem? (i := 1990) (by decide +kernel)) rfl), (mem_t (List.mem_of_getElem? (i := 1992) (by decide +kernel)) rfl), (mem_s (List.mem_of_getElem? (i := 62) (by decide +kernel)) rfl), (mem_t (List.mem_of_getElem? (i := 13) (by decide +kernel)) rfl), (mem_t (List.mem_of_getElem? (i := 1993) (by decide +kernel)) rfl)⟩
theorem ok_built : okS RX12 123 yX12_built cX12_built 2 (some .int) := ⟨(mem_t (List.mem_of_getElem? (i := 1994) (by decide +kernel)) rfl), (mem_t (List.mem_of_getElem? (i := 1995) (by decide +kernel)) rfl), (mem_t (List.mem_of_getElem? (i := 13) (by decide +kernel)) rfl), (mem_t (List.mem_of_getElem? (i := 1996) (by decide +kernel)) rfl)⟩
theorem ok_add : okC RX12 126 yX12_add cX12_add 5 none := ⟨(mem_t (List.mem_of_getElem? (i := 1536) (by decide +kernel)) rfl), (mem_t (List.mem_of_getElem? (i := 1538) (by decide +kernel)) rfl), (mem_s (List.mem_of_getElem? (i := 52) (by decide +kernel)) rfl), (mem_t (List.mem_of_getElem? (i := 13) (by decide +kernel)) rfl), (mem_t (List.mem_of_getElem? (i := 1539) (by decide +kernel)) rfl)⟩
theorem ok_ask : okC RX12 421 yX12_ask cX12_ask 5 none := ⟨(mem_t (List.mem_of_getElem? (i := 2013) (by decide +kernel)) rfl), (mem_t (List.mem_of_getElem? (i := 2015) (by decide +kernel)) rfl), (mem_s (List.mem_of_getElem? (i := 65) (by decide +kernel)) rfl), (mem_t (List.mem_of_getElem? (i := 13) (by decide +kernel)) rfl), (mem_t (List.mem_of_getElem? (i := 2016) (by decide +kernel)) rfl)⟩
theorem ok_readArgs : okC RX12 425 yX12_readArgs cX12_readArgs 4 none := ⟨(mem_t (List.mem_of_getElem? (i := 2056) (by decide +kernel)) rfl), (mem_t (List.mem_of_getElem? (i := 2058) (by decide +kernel)) rfl), (mem_s (List.mem_of_getElem? (i := 75) (by decide +kernel)) rfl), (mem_t (List.mem_of_getElem? (i := 13) (by decide +kernel)) rfl), (mem_t (List.mem_of_getElem? (i := 2059) (by decide +kernel)) rfl)⟩
theorem ok_must : okC RX12 429 yX12_must cX12_must 2 none := ⟨(mem_t (List.mem_of_getElem? (i := 2017) (by decide +kernel)) rfl), (mem_t (List.mem_of_getElem? (i := 2019) (by decide +kernel)) rfl), (mem_s (List.mem_of_getElem? (i := 66) (by decide +kernel)) rfl), (mem_t (List.mem_of_getElem? (i := 13) (by decide +kernel)) rfl), (mem_t (List.mem_of_getElem? (i := 2020) (by decide +kernel)) rfl)⟩
theorem ok_wrong2 : okC RX12 432 yX12_wrong2 cX12_wrong2 1 none := ⟨(mem_t (List.mem_of_getElem? (i := 2009) (by decide +kernel)) rfl), (mem_t (List.mem_of_getElem? (i := 2011) (by decide +kernel)) rfl), (mem_s (List.mem_of_getElem? (i := 64) (by decide +kernel)) rfl), (mem_t (List.mem_of_getElem? (i := 13) (by decide +kernel)) rfl), (mem_t (List.mem_of_getElem? (i := 2012) (by decide +kernel)) rfl)⟩
theorem ok_readUse : okC RX12 435 yX12_readUse cX12_readUse 2 (some .int) := ⟨(mem_t (List.mem_of_getElem? (i := 2052) (by decide +kernel)) rfl), (mem_t (List.mem_of_getElem? (i := 2054) (by decide +kernel)) rfl), (mem_s (List.mem_of_getElem? (i := 74) (by decide +kernel)) rfl), (mem_t (List.mem_of_getElem? (i := 13) (by decide +kernel)) rfl), (mem_t (List.mem_of_getElem? (i := 2055) (by decide +kernel)) rfl)⟩
theorem ok_tell : okC RX12 442 yX12_tell cX12_tell 3 none := ⟨(mem_t (List.mem_of_getElem? (i := 1986) (by decide +kernel)) rfl), (mem_t (List.mem_of_getElem? (i := 1988) (by decide +kernel)) rfl), (mem_s (List.mem_of_getElem? (i := 61) (by decide +kernel)) rfl), (mem_t (List.mem_of_getElem? (i := 13) (by decide +kernel)) rfl), (mem_t (List.mem_of_getElem? (i := 1989) (by decide +kernel)) rfl)⟩
theorem ok_isStep : okC RX12 452 yX12_isStep cX12_isStep 4 (some .boolean) := ⟨(mem_t (List.mem_of_getElem? (i := 2037) (by decide +kernel)) rfl), (mem_t (List.mem_of_getElem? (i := 2039) (by decide +kernel)) rfl), (mem_s (List.mem_of_getElem? (i := 71) (by decide +kernel)) rfl), (mem_t (List.mem_of_getElem? (i := 13) (by decide +kernel)) rfl), (mem_t (List.mem_of_getElem? (i := 2040) (by decide +kernel)) rfl)⟩
theorem ok_isWord : okC RX12 465 yX12_isWord cX12_isWord 3 (some .boolean) := ⟨(mem_t (List.mem_of_getElem? (i := 2029) (by decide +kernel)) rfl), (mem_t (List.mem_of_getElem? (i := 2031) (by decide +kernel)) rfl), (mem_s (List.mem_of_getElem? (i := 69) (by decide +kernel)) rfl), (mem_t (List.mem_of_getElem? (i := 13) (by decide +kernel)) rfl), (mem_t (List.mem_of_getElem? (i := 2032) (by decide +kernel)) rfl)⟩
theorem ok_readSteps : okC RX12 468 yX12_readSteps cX12_readSteps 8 (some .int) := ⟨(mem_t (List.mem_of_getElem? (i := 2033) (by decide +kernel)) rfl), (mem_t (List.mem_of_getElem? (i := 2035) (by decide +kernel)) rfl), (mem_s (List.mem_of_getElem? (i := 70) (by decide +kernel)) rfl), (mem_t (List.mem_of_getElem? (i := 13) (by decide +kernel)) rfl), (mem_t (List.mem_of_getElem? (i := 2036) (by decide +kernel)) rfl)⟩
theorem ok_readUses : okC RX12 475 yX12_readUses cX12_readUses 5 (some .int) := ⟨(mem_t (List.mem_of_getElem? (i := 2048) (by decide +kernel)) rfl), (mem_t (List.mem_of_getElem? (i := 2050) (by decide +kernel)) rfl), (mem_s (List.mem_of_getElem? (i := 73) (by decide +kernel)) rfl), (mem_t (List.mem_of_getElem? (i := 13) (by decide +kernel)) rfl), (mem_t (List.mem_of_getElem? (i := 2051) (by decide +kernel)) rfl)⟩
theorem ok_above : okC RX12 484 yX12_above cX12_above 4 none := ⟨(mem_t (List.mem_of_getElem? (i := 2064) (by decide +kernel)) rfl), (mem_t (List.mem_of_getElem? (i := 2066) (by decide +kernel)) rfl), (mem_s (List.mem_of_getElem? (i := 77) (by decide +kernel)) rfl), (mem_t (List.mem_of_getElem? (i := 13) (by decide +kernel)) rfl), (mem_t (List.mem_of_getElem? (i := 2067) (by decide +kernel)) rfl)⟩
theorem ok_readStar : okC RX12 487 yX12_readStar cX12_readStar 5 none := ⟨(mem_t (List.mem_of_getElem? (i := 2068) (by decide +kernel)) rfl), (mem_t (List.mem_of_getElem? (i := 2070) (by decide +kernel)) rfl), (mem_s (List.mem_of_getElem? (i := 78) (by decide +kernel)) rfl), (mem_t (List.mem_of_getElem? (i := 13) (by decide +kernel)) rfl), (mem_t (List.mem_of_getElem? (i := 2071) (by decide +kernel)) rfl)⟩
theorem ok_readMember : okC RX12 490 yX12_readMember cX12_readMember 3 none := ⟨(mem_t (List.mem_of_getElem? (i := 2072) (by decide +kernel)) rfl), (mem_t (List.mem_of_getElem? (i := 2074) (by decide +kernel)) rfl), (mem_s (List.mem_of_getElem? (i := 79) (by decide +kernel)) rfl), (mem_t (List.mem_of_getElem? (i := 13) (by decide +kernel)) rfl), (mem_t (List.mem_of_getElem? (i := 2075) (by decide +kernel)) rfl)⟩
theorem ok_memberOf : okC RX12 493 yX12_memberOf cX12_memberOf 5 (some .int) := ⟨(mem_t (List.mem_of_getElem? (i := 2076) (by decide +kernel)) rfl), (mem_t (List.mem_of_getElem? (i := 2078) (by decide +kernel)) rfl), (mem_s (List.mem_of_getElem? (i := 80) (by decide +kernel)) rfl), (mem_t (List.mem_of_getElem? (i := 13) (by decide +kernel)) rfl), (mem_t (List.mem_of_getElem? (i := 2079) (by decide +kernel)) rfl)⟩
theorem ok_readGroup : okC RX12 497 yX12_readGroup cX12_readGroup 4 none := ⟨(mem_t (List.mem_of_getElem? (i := 1982) (by decide +kernel)) rfl), (mem_t (List.mem_of_getElem? (i := 1984) (by decide +kernel)) rfl), (mem_s (List.mem_of_getElem? (i := 60) (by decide +kernel)) rfl), (mem_t (List.mem_of_getElem? (i := 13) (by decide +kernel)) rfl), (mem_t (List.mem_of_getElem? (i := 1985) (by decide +kernel)) rfl)⟩
theorem ok_readChain : okC RX12 500 yX12_readChain cX12_readChain 4 none := ⟨(mem_t (List.mem_of_getElem? (i := 2021) (by decide +kernel)) rfl), (mem_t (List.mem_of_getElem? (i := 2023) (by decide +kernel)) rfl), (mem_s (List.mem_of_getElem? (i := 67) (by decide +kernel)) rfl), (mem_t (List.mem_of_getElem? (i := 13) (by decide +kernel)) rfl), (mem_t (List.mem_of_getElem? (i := 2024) (by decide +kernel)) rfl)⟩
theorem ok_readRule : okC RX12 503 yX12_readRule cX12_readRule 2 none := ⟨(mem_t (List.mem_of_getElem? (i := 2025) (by decide +kernel)) rfl), (mem_t (List.mem_of_getElem? (i := 2027) (by decide +kernel)) rfl), (mem_s (List.mem_of_getElem? (i := 68) (by decide +kernel)) rfl), (mem_t (List.mem_of_getElem? (i := 13) (by decide +kernel)) rfl), (mem_t (List.mem_of_getElem? (i := 2028) (by decide +kernel)) rfl)⟩
theorem ok_readMark : okC RX12 506 yX12_readMark cX12_readMark 2 none := ⟨(mem_t (List.mem_of_getElem? (i := 2044) (by decide +kernel)) rfl), (mem_t (List.mem_of_getElem? (i := 2046) (by decide +kernel)) rfl), (mem_s (List.mem_of_getElem? (i := 72) (by decide +kernel)) rfl), (mem_t (List.mem_of_getElem? (i := 13) (by decide +kernel)) rfl), (mem_t (List.mem_of_getElem? (i := 2047) (by decide +kernel)) rfl)⟩
theorem ok_readKind : okC RX12 509 yX12_readKind cX12_readKind 3 none := ⟨(mem_t (List.mem_of_getElem? (i := 2060) (by decide +kernel)) rfl), (mem_t (List.mem_of_getElem? (i := 2062) (by decide +kernel)) rfl), (mem_s (List.mem_of_getElem? (i := 76) (by decide +kernel)) rfl), (mem_t (List.mem_of_getElem? (i := 13) (by decide +kernel)) rfl), (mem_t (List.mem_of_getElem? (i := 2063) (by decide +kernel)) rfl)⟩
theorem ok_readAll : okC RX12 515 yX12_readAll cX12_readAll 4 none := ⟨(mem_t (List.mem_of_getElem? (i := 1932) (by decide +kernel)) rfl), (mem_t (List.mem_of_getElem? (i := 1934) (by decide +kernel)) rfl), (mem_s (List.mem_of_getElem? (i := 53) (by decide +kernel)) rfl), (mem_t (List.mem_of_getElem? (i := 13) (by decide +kernel)) rfl), (mem_t (List.mem_of_getElem? (i := 1935) (by decide +kernel)) rfl)⟩
theorem ok_resolve : okC RX12 518 yX12_resolve cX12_resolve 5 none := ⟨(mem_t (List.mem_of_getElem? (i := 2080) (by decide +kernel)) rfl), (mem_t (List.mem_of_getElem? (i := 2082) (by decide +kernel)) rfl), (mem_s (List.mem_of_getElem? (i := 81) (by decide +kernel)) rfl), (mem_t (List.mem_of_getElem? (i := 13) (by decide +kernel)) rfl), (mem_t (List.mem_of_getElem? (i := 2083) (by decide +kernel)) rfl)⟩
theorem ok_open : okC RX12 521 yX12_open cX12_open 6 none := ⟨(mem_t (List.mem_of_getElem? (i := 2084) (by decide +kernel)) rfl), (mem_t (List.mem_of_getElem? (i := 2086) (by decide +kernel)) rfl), (mem_s (List.mem_of_getElem? (i := 82) (by decide +kernel)) rfl), (mem_t (List.mem_of_getElem? (i := 13) (by decide +kernel)) rfl), (mem_t (List.mem_of_getElem? (i := 2087) (by decide +kernel)) rfl)⟩
theorem ok_leads : okC RX12 540 yX12_leads cX12_leads 6 (some .boolean) := ⟨(mem_t (List.mem_of_getElem? (i := 2092) (by decide +kernel)) rfl), (mem_t (List.mem_of_getElem? (i := 2094) (by decide +kernel)) rfl), (mem_s (List.mem_of_getElem? (i := 84) (by decide +kernel)) rfl), (mem_t (List.mem_of_getElem? (i := 13) (by decide +kernel)) rfl), (mem_t (List.mem_of_getElem? (i := 2095) (by decide +kernel)) rfl)⟩
theorem ok_findRings : okC RX12 544 yX12_findRings cX12_findRings 4 none := ⟨(mem_t (List.mem_of_getElem? (i := 2088) (by decide +kernel)) rfl), (mem_t (List.mem_of_getElem? (i := 2090) (by decide +kernel)) rfl), (mem_s (List.mem_of_getElem? (i := 83) (by decide +kernel)) rfl), (mem_t (List.mem_of_getElem? (i := 13) (by decide +kernel)) rfl), (mem_t (List.mem_of_getElem? (i := 2091) (by decide +kernel)) rfl)⟩
theorem ok_openUse : okC RX12 553 yX12_openUse cX12_openUse 10 none := ⟨(mem_t (List.mem_of_getElem? (i := 2096) (by decide +kernel)) rfl), (mem_t (List.mem_of_getElem? (i := 2098) (by decide +kernel)) rfl), (mem_s (List.mem_of_getElem? (i := 85) (by decide +kernel)) rfl), (mem_t (List.mem_of_getElem? (i := 13) (by decide +kernel)) rfl), (mem_t (List.mem_of_getElem? (i := 2099) (by decide +kernel)) rfl)⟩
theorem ok_hold : okC RX12 556 yX12_hold cX12_hold 11 none := ⟨(mem_t (List.mem_of_getElem? (i := 2100) (by decide +kernel)) rfl), (mem_t (List.mem_of_getElem? (i := 2102) (by decide +kernel)) rfl), (mem_s (List.mem_of_getElem? (i := 86) (by decide +kernel)) rfl), (mem_t (List.mem_of_getElem? (i := 13) (by decide +kernel)) rfl), (mem_t (List.mem_of_getElem? (i := 2103) (by decide +kernel)) rfl)⟩
theorem ok_isFor : okC RX12 559 yX12_isFor cX12_isFor 5 (some .boolean) := ⟨(mem_t (List.mem_of_getElem? (i := 2104) (by decide +kernel)) rfl), (mem_t (List.mem_of_getElem? (i := 2106) (by decide +kernel)) rfl), (mem_s (List.mem_of_getElem? (i := 87) (by decide +kernel)) rfl), (mem_t (List.mem_of_getElem? (i := 13) (by decide +kernel)) rfl), (mem_t (List.mem_of_getElem? (i := 2107) (by decide +kernel)) rfl)⟩
theorem ok_hasArgs : okC RX12 562 yX12_hasArgs cX12_hasArgs 6 (some .boolean) := ⟨(mem_t (List.mem_of_getElem? (i := 2112) (by decide +kernel)) rfl), (mem_t (List.mem_of_getElem? (i := 2114) (by decide +kernel)) rfl), (mem_s (List.mem_of_getElem? (i := 89) (by decide +kernel)) rfl), (mem_t (List.mem_of_getElem? (i := 13) (by decide +kernel)) rfl), (mem_t (List.mem_of_getElem? (i := 2115) (by decide +kernel)) rfl)⟩
theorem ok_argOf : okC RX12 565 yX12_argOf cX12_argOf 5 (some .int) := ⟨(mem_t (List.mem_of_getElem? (i := 2132) (by decide +kernel)) rfl), (mem_t (List.mem_of_getElem? (i := 2134) (by decide +kernel)) rfl), (mem_s (List.mem_of_getElem? (i := 94) (by decide +kernel)) rfl), (mem_t (List.mem_of_getElem? (i := 13) (by decide +kernel)) rfl), (mem_t (List.mem_of_getElem? (i := 2135) (by decide +kernel)) rfl)⟩
theorem ok_typeOf : okC RX12 569 yX12_typeOf cX12_typeOf 3 (some .int) := ⟨(mem_t (List.mem_of_getElem? (i := 2108) (by decide +kernel)) rfl), (mem_t (List.mem_of_getElem? (i := 2110) (by decide +kernel)) rfl), (mem_s (List.mem_of_getElem? (i := 88) (by decide +kernel)) rfl), (mem_t (List.mem_of_getElem? (i := 13) (by decide +kernel)) rfl), (mem_t (List.mem_of_getElem? (i := 2111) (by decide +kernel)) rfl)⟩
theorem ok_intMember : okC RX12 573 yX12_intMember cX12_intMember 5 (some .int) := ⟨(mem_t (List.mem_of_getElem? (i := 2116) (by decide +kernel)) rfl), (mem_t (List.mem_of_getElem? (i := 2118) (by decide +kernel)) rfl), (mem_s (List.mem_of_getElem? (i := 90) (by decide +kernel)) rfl), (mem_t (List.mem_of_getElem? (i := 13) (by decide +kernel)) rfl), (mem_t (List.mem_of_getElem? (i := 2119) (by decide +kernel)) rfl)⟩
theorem ok_listMember : okC RX12 577 yX12_listMember cX12_listMember 4 (some .int) := ⟨(mem_t (List.mem_of_getElem? (i := 2120) (by decide +kernel)) rfl), (mem_t (List.mem_of_getElem? (i := 2122) (by decide +kernel)) rfl), (mem_s (List.mem_of_getElem? (i := 91) (by decide +kernel)) rfl), (mem_t (List.mem_of_getElem? (i := 13) (by decide +kernel)) rfl), (mem_t (List.mem_of_getElem? (i := 2123) (by decide +kernel)) rfl)⟩
theorem ok_kindIn : okC RX12 580 yX12_kindIn cX12_kindIn 3 (some .int) := ⟨(mem_t (List.mem_of_getElem? (i := 2124) (by decide +kernel)) rfl), (mem_t (List.mem_of_getElem? (i := 2126) (by decide +kernel)) rfl), (mem_s (List.mem_of_getElem? (i := 92) (by decide +kernel)) rfl), (mem_t (List.mem_of_getElem? (i := 13) (by decide +kernel)) rfl), (mem_t (List.mem_of_getElem? (i := 2127) (by decide +kernel)) rfl)⟩
theorem ok_areNumbers : okC RX12 583 yX12_areNumbers cX12_areNumbers 4 (some .boolean) := ⟨(mem_t (List.mem_of_getElem? (i := 2128) (by decide +kernel)) rfl), (mem_t (List.mem_of_getElem? (i := 2130) (by decide +kernel)) rfl), (mem_s (List.mem_of_getElem? (i := 93) (by decide +kernel)) rfl), (mem_t (List.mem_of_getElem? (i := 13) (by decide +kernel)) rfl), (mem_t (List.mem_of_getElem? (i := 2131) (by decide +kernel)) rfl)⟩
theorem ok_plain : okS RX12 588 yX12_plain cX12_plain 5 (some .long) := ⟨(mem_t (List.mem_of_getElem? (i := 2148) (by decide +kernel)) rfl), (mem_t (List.mem_of_getElem? (i := 2149) (by decide +kernel)) rfl), (mem_t (List.mem_of_getElem? (i := 13) (by decide +kernel)) rfl), (mem_t (List.mem_of_getElem? (i := 2150) (by decide +kernel)) rfl)⟩
theorem ok_isPaper : okC RX12 592 yX12_isPaper cX12_isPaper 2 (some .boolean) := ⟨(mem_t (List.mem_of_getElem? (i := 2172) (by decide +kernel)) rfl), (mem_t (List.mem_of_getElem? (i := 2174) (by decide +kernel)) rfl), (mem_s (List.mem_of_getElem? (i := 96) (by decide +kernel)) rfl), (mem_t (List.mem_of_getElem? (i := 13) (by decide +kernel)) rfl), (mem_t (List.mem_of_getElem? (i := 2175) (by decide +kernel)) rfl)⟩
theorem ok_has : okC RX12 595 yX12_has cX12_has 4 (some .boolean) := ⟨(mem_t (List.mem_of_getElem? (i := 2168) (by decide +kernel)) rfl), (mem_t (List.mem_of_getElem? (i := 2170) (by decide +kernel)) rfl), (mem_s (List.mem_of_getElem? (i := 95) (by decide +kernel)) rfl), (mem_t (List.mem_of_getElem? (i := 13) (by decide +kernel)) rfl), (mem_t (List.mem_of_getElem? (i := 2171) (by decide +kernel)) rfl)⟩
theorem ok_isOf : okC RX12 598 yX12_isOf cX12_isOf 4 (some .boolean) := ⟨(mem_t (List.mem_of_getElem? (i := 2184) (by decide +kernel)) rfl), (mem_t (List.mem_of_getElem? (i := 2186) (by decide +kernel)) rfl), (mem_s (List.mem_of_getElem? (i := 97) (by decide +kernel)) rfl), (mem_t (List.mem_of_getElem? (i := 13) (by decide +kernel)) rfl), (mem_t (List.mem_of_getElem? (i := 2187) (by decide +kernel)) rfl)⟩
theorem ok_two : okC RX12 604 yX12_two cX12_two 4 (some .int) := ⟨(mem_t (List.mem_of_getElem? (i := 2236) (by decide +kernel)) rfl), (mem_t (List.mem_of_getElem? (i := 2238) (by decide +kernel)) rfl), (mem_s (List.mem_of_getElem? (i := 105) (by decide +kernel)) rfl), (mem_t (List.mem_of_getElem? (i := 13) (by decide +kernel)) rfl), (mem_t (List.mem_of_getElem? (i := 2239) (by decide +kernel)) rfl)⟩
theorem ok_work : okC RX12 607 yX12_work cX12_work 9 (some .int) := ⟨(mem_t (List.mem_of_getElem? (i := 2232) (by decide +kernel)) rfl), (mem_t (List.mem_of_getElem? (i := 2234) (by decide +kernel)) rfl), (mem_s (List.mem_of_getElem? (i := 104) (by decide +kernel)) rfl), (mem_t (List.mem_of_getElem? (i := 13) (by decide +kernel)) rfl), (mem_t (List.mem_of_getElem? (i := 2235) (by decide +kernel)) rfl)⟩
theorem ok_isOver : okC RX12 623 yX12_isOver cX12_isOver 1 (some .boolean) := ⟨(mem_t (List.mem_of_getElem? (i := 2208) (by decide +kernel)) rfl), (mem_t (List.mem_of_getElem? (i := 2210) (by decide +kernel)) rfl), (mem_s (List.mem_of_getElem? (i := 98) (by decide +kernel)) rfl), (mem_t (List.mem_of_getElem? (i := 13) (by decide +kernel)) rfl), (mem_t (List.mem_of_getElem? (i := 2211) (by decide +kernel)) rfl)⟩
theorem ok_go : okC RX12 629 yX12_go cX12_go 7 none := ⟨(mem_t (List.mem_of_getElem? (i := 2212) (by decide +kernel)) rfl), (mem_t (List.mem_of_getElem? (i := 2214) (by decide +kernel)) rfl), (mem_s (List.mem_of_getElem? (i := 99) (by decide +kernel)) rfl), (mem_t (List.mem_of_getElem? (i := 13) (by decide +kernel)) rfl), (mem_t (List.mem_of_getElem? (i := 2215) (by decide +kernel)) rfl)⟩
theorem ok_enter : okC RX12 635 yX12_enter cX12_enter 5 none := ⟨(mem_t (List.mem_of_getElem? (i := 2216) (by decide +kernel)) rfl), (mem_t (List.mem_of_getElem? (i := 2218) (by decide +kernel)) rfl), (mem_s (List.mem_of_getElem? (i := 100) (by decide +kernel)) rfl), (mem_t (List.mem_of_getElem? (i := 13) (by decide +kernel)) rfl), (mem_t (List.mem_of_getElem? (i := 2219) (by decide +kernel)) rfl)⟩
theorem ok_goes : okC RX12 638 yX12_goes cX12_goes 5 (some .boolean) := ⟨(mem_t (List.mem_of_getElem? (i := 2298) (by decide +kernel)) rfl), (mem_t (List.mem_of_getElem? (i := 2300) (by decide +kernel)) rfl), (mem_s (List.mem_of_getElem? (i := 119) (by decide +kernel)) rfl), (mem_t (List.mem_of_getElem? (i := 13) (by decide +kernel)) rfl), (mem_t (List.mem_of_getElem? (i := 2301) (by decide +kernel)) rfl)⟩
theorem ok_nextOf : okC RX12 641 yX12_nextOf cX12_nextOf 5 (some .int) := ⟨(mem_t (List.mem_of_getElem? (i := 2302) (by decide +kernel)) rfl), (mem_t (List.mem_of_getElem? (i := 2304) (by decide +kernel)) rfl), (mem_s (List.mem_of_getElem? (i := 120) (by decide +kernel)) rfl), (mem_t (List.mem_of_getElem? (i := 13) (by decide +kernel)) rfl), (mem_t (List.mem_of_getElem? (i := 2305) (by decide +kernel)) rfl)⟩
theorem ok_listOf : okC RX12 644 yX12_listOf cX12_listOf 3 (some .int) := ⟨(mem_t (List.mem_of_getElem? (i := 2294) (by decide +kernel)) rfl), (mem_t (List.mem_of_getElem? (i := 2296) (by decide +kernel)) rfl), (mem_s (List.mem_of_getElem? (i := 118) (by decide +kernel)) rfl), (mem_t (List.mem_of_getElem? (i := 13) (by decide +kernel)) rfl), (mem_t (List.mem_of_getElem? (i := 2297) (by decide +kernel)) rfl)⟩
theorem ok_askList : okC RX12 647 yX12_askList cX12_askList 6 none := ⟨(mem_t (List.mem_of_getElem? (i := 2220) (by decide +kernel)) rfl), (mem_t (List.mem_of_getElem? (i := 2222) (by decide +kernel)) rfl), (mem_s (List.mem_of_getElem? (i := 101) (by decide +kernel)) rfl), (mem_t (List.mem_of_getElem? (i := 13) (by decide +kernel)) rfl), (mem_t (List.mem_of_getElem? (i := 2223) (by decide +kernel)) rfl)⟩
theorem ok_askOne : okC RX12 651 yX12_askOne cX12_askOne 5 none := ⟨(mem_t (List.mem_of_getElem? (i := 2224) (by decide +kernel)) rfl), (mem_t (List.mem_of_getElem? (i := 2226) (by decide +kernel)) rfl), (mem_s (List.mem_of_getElem? (i := 102) (by decide +kernel)) rfl), (mem_t (List.mem_of_getElem? (i := 13) (by decide +kernel)) rfl), (mem_t (List.mem_of_getElem? (i := 2227) (by decide +kernel)) rfl)⟩
theorem ok_starts : okC RX12 657 yX12_starts cX12_starts 4 (some .boolean) := ⟨(mem_t (List.mem_of_getElem? (i := 2228) (by decide +kernel)) rfl), (mem_t (List.mem_of_getElem? (i := 2230) (by decide +kernel)) rfl), (mem_s (List.mem_of_getElem? (i := 103) (by decide +kernel)) rfl), (mem_t (List.mem_of_getElem? (i := 13) (by decide +kernel)) rfl), (mem_t (List.mem_of_getElem? (i := 2231) (by decide +kernel)) rfl)⟩
theorem ok_holds : okC RX12 660 yX12_holds cX12_holds 8 (some .boolean) := ⟨(mem_t (List.mem_of_getElem? (i := 2240) (by decide +kernel)) rfl), (mem_t (List.mem_of_getElem? (i := 2242) (by decide +kernel)) rfl), (mem_s (List.mem_of_getElem? (i := 106) (by decide +kernel)) rfl), (mem_t (List.mem_of_getElem? (i := 13) (by decide +kernel)) rfl), (mem_t (List.mem_of_getElem? (i := 2243) (by decide +kernel)) rfl)⟩
theorem ok_note : okC RX12 663 yX12_note cX12_note 7 none := ⟨(mem_t (List.mem_of_getElem? (i := 2268) (by decide +kernel)) rfl), (mem_t (List.mem_of_getElem? (i := 2270) (by decide +kernel)) rfl), (mem_s (List.mem_of_getElem? (i := 113) (by decide +kernel)) rfl), (mem_t (List.mem_of_getElem? (i := 13) (by decide +kernel)) rfl), (mem_t (List.mem_of_getElem? (i := 2271) (by decide +kernel)) rfl)⟩
theorem ok_isBelow : okC RX12 666 yX12_isBelow cX12_isBelow 4 (some .boolean) := ⟨(mem_t (List.mem_of_getElem? (i := 2244) (by decide +kernel)) rfl), (mem_t (List.mem_of_getElem? (i := 2246) (by decide +kernel)) rfl), (mem_s (List.mem_of_getElem? (i := 107) (by decide +kernel)) rfl), (mem_t (List.mem_of_getElem? (i := 13) (by decide +kernel)) rfl), (mem_t (List.mem_of_getElem? (i := 2247) (by decide +kernel)) rfl)⟩
theorem ok_isTotal : okC RX12 669 yX12_isTotal cX12_isTotal 9 (some .boolean) := ⟨(mem_t (List.mem_of_getElem? (i := 2248) (by decide +kernel)) rfl), (mem_t (List.mem_of_getElem? (i := 2250) (by decide +kernel)) rfl), (mem_s (List.mem_of_getElem? (i := 108) (by decide +kernel)) rfl), (mem_t (List.mem_of_getElem? (i := 13) (by decide +kernel)) rfl), (mem_t (List.mem_of_getElem? (i := 2251) (by decide +kernel)) rfl)⟩
theorem ok_isThere : okC RX12 672 yX12_isThere cX12_isThere 3 (some .boolean) := ⟨(mem_t (List.mem_of_getElem? (i := 2252) (by decide +kernel)) rfl), (mem_t (List.mem_of_getElem? (i := 2254) (by decide +kernel)) rfl), (mem_s (List.mem_of_getElem? (i := 109) (by decide +kernel)) rfl), (mem_t (List.mem_of_getElem? (i := 13) (by decide +kernel)) rfl), (mem_t (List.mem_of_getElem? (i := 2255) (by decide +kernel)) rfl)⟩
theorem ok_holdsAt : okC RX12 675 yX12_holdsAt cX12_holdsAt 7 (some .boolean) := ⟨(mem_t (List.mem_of_getElem? (i := 2256) (by decide +kernel)) rfl), (mem_t (List.mem_of_getElem? (i := 2258) (by decide +kernel)) rfl), (mem_s (List.mem_of_getElem? (i := 110) (by decide +kernel)) rfl), (mem_t (List.mem_of_getElem? (i := 13) (by decide +kernel)) rfl), (mem_t (List.mem_of_getElem? (i := 2259) (by decide +kernel)) rfl)⟩
theorem ok_ownOf : okC RX12 678 yX12_ownOf cX12_ownOf 4 (some .int) := ⟨(mem_t (List.mem_of_getElem? (i := 2260) (by decide +kernel)) rfl), (mem_t (List.mem_of_getElem? (i := 2262) (by decide +kernel)) rfl), (mem_s (List.mem_of_getElem? (i := 111) (by decide +kernel)) rfl), (mem_t (List.mem_of_getElem? (i := 13) (by decide +kernel)) rfl), (mem_t (List.mem_of_getElem? (i := 2263) (by decide +kernel)) rfl)⟩
theorem ok_breaksOff : okC RX12 681 yX12_breaksOff cX12_breaksOff 2 none := ⟨(mem_t (List.mem_of_getElem? (i := 2264) (by decide +kernel)) rfl), (mem_t (List.mem_of_getElem? (i := 2266) (by decide +kernel)) rfl), (mem_s (List.mem_of_getElem? (i := 112) (by decide +kernel)) rfl), (mem_t (List.mem_of_getElem? (i := 13) (by decide +kernel)) rfl), (mem_t (List.mem_of_getElem? (i := 2267) (by decide +kernel)) rfl)⟩
theorem ok_proposal : okC RX12 684 yX12_proposal cX12_proposal 10 (some .int) := ⟨(mem_t (List.mem_of_getElem? (i := 2272) (by decide +kernel)) rfl), (mem_t (List.mem_of_getElem? (i := 2274) (by decide +kernel)) rfl), (mem_s (List.mem_of_getElem? (i := 114) (by decide +kernel)) rfl), (mem_t (List.mem_of_getElem? (i := 13) (by decide +kernel)) rfl), (mem_t (List.mem_of_getElem? (i := 2275) (by decide +kernel)) rfl)⟩
theorem ok_say : okC RX12 687 yX12_say cX12_say 12 none := ⟨(mem_t (List.mem_of_getElem? (i := 2279) (by decide +kernel)) rfl), (mem_t (List.mem_of_getElem? (i := 2281) (by decide +kernel)) rfl), (mem_s (List.mem_of_getElem? (i := 115) (by decide +kernel)) rfl), (mem_t (List.mem_of_getElem? (i := 13) (by decide +kernel)) rfl), (mem_t (List.mem_of_getElem? (i := 2282) (by decide +kernel)) rfl)⟩
theorem ok_size : okS RX12 690 yX12_size cX12_size 2 (some .long) := ⟨(mem_t (List.mem_of_getElem? (i := 2276) (by decide +kernel)) rfl), (mem_t (List.mem_of_getElem? (i := 2277) (by decide +kernel)) rfl), (mem_t (List.mem_of_getElem? (i := 13) (by decide +kernel)) rfl), (mem_t (List.mem_of_getElem? (i := 2278) (by decide +kernel)) rfl)⟩
theorem ok_add2 : okC RX12 695 yX12_add2 cX12_add2 3 none := ⟨(mem_t (List.mem_of_getElem? (i := 2288) (by decide +kernel)) rfl), (mem_t (List.mem_of_getElem? (i := 2290) (by decide +kernel)) rfl), (mem_s (List.mem_of_getElem? (i := 117) (by decide +kernel)) rfl), (mem_t (List.mem_of_getElem? (i := 13) (by decide +kernel)) rfl), (mem_t (List.mem_of_getElem? (i := 2291) (by decide +kernel)) rfl)⟩
theorem ok_value : okC RX12 702 yX12_value cX12_value 7 (some .int) := ⟨(mem_t (List.mem_of_getElem? (i := 2283) (by decide +kernel)) rfl), (mem_t (List.mem_of_getElem? (i := 2193) (by decide +kernel)) rfl), (mem_t (List.mem_of_getElem? (i := 2194) (by decide +kernel)) rfl), (mem_t (List.mem_of_getElem? (i := 13) (by decide +kernel)) rfl), (mem_t (List.mem_of_getElem? (i := 2195) (by decide +kernel)) rfl)⟩
theorem ok_addNumber : okC RX12 705 yX12_addNumber cX12_addNumber 7 none := ⟨(mem_t (List.mem_of_getElem? (i := 2284) (by decide +kernel)) rfl), (mem_t (List.mem_of_getElem? (i := 2286) (by decide +kernel)) rfl), (mem_s (List.mem_of_getElem? (i := 116) (by decide +kernel)) rfl), (mem_t (List.mem_of_getElem? (i := 13) (by decide +kernel)) rfl), (mem_t (List.mem_of_getElem? (i := 2287) (by decide +kernel)) rfl)⟩
theorem ok_kept : okC RX12 708 yX12_kept cX12_kept 1 (some .int) := ⟨(mem_t (List.mem_of_getElem? (i := 2310) (by decide +kernel)) rfl), (mem_t (List.mem_of_getElem? (i := 2312) (by decide +kernel)) rfl), (mem_s (List.mem_of_getElem? (i := 121) (by decide +kernel)) rfl), (mem_t (List.mem_of_getElem? (i := 13) (by decide +kernel)) rfl), (mem_t (List.mem_of_getElem? (i := 2313) (by decide +kernel)) rfl)⟩
theorem ok_isRead : okC RX12 711 yX12_isRead cX12_isRead 6 (some .boolean) := ⟨(mem_t (List.mem_of_getElem? (i := 2338) (by decide +kernel)) rfl), (mem_t (List.mem_of_getElem? (i := 2340) (by decide +kernel)) rfl), (mem_s (List.mem_of_getElem? (i := 122) (by decide +kernel)) rfl), (mem_t (List.mem_of_getElem? (i := 13) (by decide +kernel)) rfl), (mem_t (List.mem_of_getElem? (i := 2341) (by decide +kernel)) rfl)⟩
theorem nm_init : nmC yX12_init 0 := by unfold nmC; decide +kernel
theorem nm_above : nmC yX12_above 2 := by unfold nmC; decide +kernel
theorem nm_add : nmC yX12_add 3 := by unfold nmC; decide +kernel
theorem nm_add2 : nmC yX12_add2 2 := by unfold nmC; decide +kernel
theorem nm_addNumber : nmC yX12_addNumber 2 := by unfold nmC; decide +kernel
theorem nm_areNumbers : nmC yX12_areNumbers 1 := by unfold nmC; decide +kernel
theorem nm_argOf : nmC yX12_argOf 4 := by unfold nmC; decide +kernel
theorem nm_ask : nmC yX12_ask 4 := by unfold nmC; decide +kernel
theorem nm_askList : nmC yX12_askList 3 := by unfold nmC; decide +kernel
theorem nm_askOne : nmC yX12_askOne 3 := by unfold nmC; decide +kernel
theorem nm_asked : nmC yX12_asked 2 := by unfold nmC; decide +kernel
theorem nm_breaksOff : nmC yX12_breaksOff 1 := by unfold nmC; decide +kernel
theorem nm_built : nmC yX12_built 1 := by unfold nmC; decide +kernel
theorem nm_check : nmC yX12_check 2 := by unfold nmC; decide +kernel
theorem nm_correct : nmC yX12_correct 0 := by unfold nmC; decide +kernel
theorem nm_cut : nmC yX12_cut 1 := by unfold nmC; decide +kernel
theorem nm_end : nmC yX12_end 1 := by unfold nmC; decide +kernel
theorem nm_enter : nmC yX12_enter 2 := by unfold nmC; decide +kernel
theorem nm_failed : nmC yX12_failed 2 := by unfold nmC; decide +kernel
theorem nm_fails : nmC yX12_fails 2 := by unfold nmC; decide +kernel
theorem nm_fault : nmC yX12_fault 1 := by unfold nmC; decide +kernel
theorem nm_feed : nmC yX12_feed 5 := by unfold nmC; decide +kernel
theorem nm_findRings : nmC yX12_findRings 0 := by unfold nmC; decide +kernel
theorem nm_found : nmC yX12_found 2 := by unfold nmC; decide +kernel
theorem nm_go : nmC yX12_go 1 := by unfold nmC; decide +kernel
theorem nm_goes : nmC yX12_goes 2 := by unfold nmC; decide +kernel
theorem nm_groups : nmC yX12_groups 0 := by unfold nmC; decide +kernel
theorem nm_has : nmC yX12_has 3 := by unfold nmC; decide +kernel
theorem nm_hasArgs : nmC yX12_hasArgs 3 := by unfold nmC; decide +kernel
theorem nm_hold : nmC yX12_hold 4 := by unfold nmC; decide +kernel
theorem nm_holds : nmC yX12_holds 3 := by unfold nmC; decide +kernel
theorem nm_holdsAt : nmC yX12_holdsAt 2 := by unfold nmC; decide +kernel
theorem nm_intMember : nmC yX12_intMember 3 := by unfold nmC; decide +kernel
theorem nm_isBelow : nmC yX12_isBelow 3 := by unfold nmC; decide +kernel
theorem nm_isDigit : nmC yX12_isDigit 1 := by unfold nmC; decide +kernel
theorem nm_isFor : nmC yX12_isFor 3 := by unfold nmC; decide +kernel
theorem nm_isGood : nmC yX12_isGood 0 := by unfold nmC; decide +kernel
theorem nm_isKept : nmC yX12_isKept 1 := by unfold nmC; decide +kernel
theorem nm_isLetter : nmC yX12_isLetter 1 := by unfold nmC; decide +kernel
theorem nm_isOf : nmC yX12_isOf 2 := by unfold nmC; decide +kernel
theorem nm_isOver : nmC yX12_isOver 0 := by unfold nmC; decide +kernel
theorem nm_isPaper : nmC yX12_isPaper 1 := by unfold nmC; decide +kernel
theorem nm_isRead : nmC yX12_isRead 2 := by unfold nmC; decide +kernel
theorem nm_isSign : nmC yX12_isSign 1 := by unfold nmC; decide +kernel
theorem nm_isSignOf : nmC yX12_isSignOf 1 := by unfold nmC; decide +kernel
theorem nm_isStep : nmC yX12_isStep 1 := by unfold nmC; decide +kernel
theorem nm_isThere : nmC yX12_isThere 2 := by unfold nmC; decide +kernel
theorem nm_isTotal : nmC yX12_isTotal 2 := by unfold nmC; decide +kernel
theorem nm_isWord : nmC yX12_isWord 1 := by unfold nmC; decide +kernel
theorem nm_item : nmC yX12_item 3 := by unfold nmC; decide +kernel
theorem nm_kept : nmC yX12_kept 0 := by unfold nmC; decide +kernel
theorem nm_kind : nmC yX12_kind 2 := by unfold nmC; decide +kernel
theorem nm_kindIn : nmC yX12_kindIn 2 := by unfold nmC; decide +kernel
theorem nm_leads : nmC yX12_leads 3 := by unfold nmC; decide +kernel
theorem nm_link : nmC yX12_link 3 := by unfold nmC; decide +kernel
theorem nm_listMember : nmC yX12_listMember 2 := by unfold nmC; decide +kernel
theorem nm_listOf : nmC yX12_listOf 2 := by unfold nmC; decide +kernel
theorem nm_member : nmC yX12_member 2 := by unfold nmC; decide +kernel
theorem nm_memberOf : nmC yX12_memberOf 2 := by unfold nmC; decide +kernel
theorem nm_misuse : nmC yX12_misuse 2 := by unfold nmC; decide +kernel
theorem nm_must : nmC yX12_must 1 := by unfold nmC; decide +kernel
theorem nm_nameOf : nmC yX12_nameOf 1 := by unfold nmC; decide +kernel
theorem nm_named : nmC yX12_named 1 := by unfold nmC; decide +kernel
theorem nm_next : nmC yX12_next 0 := by unfold nmC; decide +kernel
theorem nm_nextNumber : nmC yX12_nextNumber 1 := by unfold nmC; decide +kernel
theorem nm_nextOf : nmC yX12_nextOf 3 := by unfold nmC; decide +kernel
theorem nm_note : nmC yX12_note 3 := by unfold nmC; decide +kernel
theorem nm_open : nmC yX12_open 0 := by unfold nmC; decide +kernel
theorem nm_openUse : nmC yX12_openUse 4 := by unfold nmC; decide +kernel
theorem nm_ownOf : nmC yX12_ownOf 3 := by unfold nmC; decide +kernel
theorem nm_paper : nmC yX12_paper 1 := by unfold nmC; decide +kernel
theorem nm_plain : nmC yX12_plain 1 := by unfold nmC; decide +kernel
theorem nm_proposal : nmC yX12_proposal 2 := by unfold nmC; decide +kernel
theorem nm_readAll : nmC yX12_readAll 0 := by unfold nmC; decide +kernel
theorem nm_readArgs : nmC yX12_readArgs 1 := by unfold nmC; decide +kernel
theorem nm_readChain : nmC yX12_readChain 0 := by unfold nmC; decide +kernel
theorem nm_readGroup : nmC yX12_readGroup 0 := by unfold nmC; decide +kernel
theorem nm_readKind : nmC yX12_readKind 0 := by unfold nmC; decide +kernel
theorem nm_readMark : nmC yX12_readMark 0 := by unfold nmC; decide +kernel
theorem nm_readMember : nmC yX12_readMember 1 := by unfold nmC; decide +kernel
theorem nm_readRule : nmC yX12_readRule 0 := by unfold nmC; decide +kernel
theorem nm_readStar : nmC yX12_readStar 1 := by unfold nmC; decide +kernel
theorem nm_readSteps : nmC yX12_readSteps 1 := by unfold nmC; decide +kernel
theorem nm_readUse : nmC yX12_readUse 0 := by unfold nmC; decide +kernel
theorem nm_readUses : nmC yX12_readUses 1 := by unfold nmC; decide +kernel
theorem nm_resolve : nmC yX12_resolve 0 := by unfold nmC; decide +kernel
theorem nm_say : nmC yX12_say 4 := by unfold nmC; decide +kernel
theorem nm_setInt : nmC yX12_setInt 4 := by unfold nmC; decide +kernel
theorem nm_setText : nmC yX12_setText 4 := by unfold nmC; decide +kernel
theorem nm_sign : nmC yX12_sign 1 := by unfold nmC; decide +kernel
theorem nm_size : nmC yX12_size 1 := by unfold nmC; decide +kernel
theorem nm_starts : nmC yX12_starts 1 := by unfold nmC; decide +kernel
theorem nm_take : nmC yX12_take 0 := by unfold nmC; decide +kernel
theorem nm_tell : nmC yX12_tell 2 := by unfold nmC; decide +kernel
theorem nm_text : nmC yX12_text 2 := by unfold nmC; decide +kernel
theorem nm_two : nmC yX12_two 3 := by unfold nmC; decide +kernel
theorem nm_typeOf : nmC yX12_typeOf 2 := by unfold nmC; decide +kernel
theorem nm_value : nmC yX12_value 3 := by unfold nmC; decide +kernel
theorem nm_way : nmC yX12_way 2 := by unfold nmC; decide +kernel
theorem nm_work : nmC yX12_work 5 := by unfold nmC; decide +kernel
theorem nm_wouldBe : nmC yX12_wouldBe 3 := by unfold nmC; decide +kernel
theorem nm_wrong : nmC yX12_wrong 0 := by unfold nmC; decide +kernel
theorem nm_wrong2 : nmC yX12_wrong2 0 := by unfold nmC; decide +kernel
theorem lc20 : Cond.constantLong RX12 20 444301538672 ∈ lw_g := (mem_t (List.mem_of_getElem? (i := 1953) (by decide +kernel)) rfl)
theorem lc22 : Cond.constantLong RX12 22 426952976750 ∈ lw_g := (mem_t (List.mem_of_getElem? (i := 1954) (by decide +kernel)) rfl)
theorem lc24 : Cond.constantLong RX12 24 1920298085 ∈ lw_g := (mem_t (List.mem_of_getElem? (i := 1955) (by decide +kernel)) rfl)
theorem lc26 : Cond.constantLong RX12 26 126943688291443 ∈ lw_g := (mem_t (List.mem_of_getElem? (i := 1956) (by decide +kernel)) rfl)
theorem lc28 : Cond.constantLong RX12 28 1835102827 ∈ lw_g := (mem_t (List.mem_of_getElem? (i := 1957) (by decide +kernel)) rfl)
theorem lc30 : Cond.constantLong RX12 30 1802071652 ∈ lw_g := (mem_t (List.mem_of_getElem? (i := 1958) (by decide +kernel)) rfl)
theorem lc32 : Cond.constantLong RX12 32 28518 ∈ lw_g := (mem_t (List.mem_of_getElem? (i := 1959) (by decide +kernel)) rfl)
theorem lc34 : Cond.constantLong RX12 34 6909556 ∈ lw_g := (mem_t (List.mem_of_getElem? (i := 1960) (by decide +kernel)) rfl)
theorem lc36 : Cond.constantLong RX12 36 1952807028 ∈ lw_g := (mem_t (List.mem_of_getElem? (i := 1961) (by decide +kernel)) rfl)
theorem lc38 : Cond.constantLong RX12 38 1818850164 ∈ lw_g := (mem_t (List.mem_of_getElem? (i := 1962) (by decide +kernel)) rfl)
theorem lc40 : Cond.constantLong RX12 40 1852138852 ∈ lw_g := (mem_t (List.mem_of_getElem? (i := 1997) (by decide +kernel)) rfl)
theorem lc42 : Cond.constantLong RX12 42 26479 ∈ lw_g := (mem_t (List.mem_of_getElem? (i := 1998) (by decide +kernel)) rfl)
theorem lc44 : Cond.constantLong RX12 44 465557353332 ∈ lw_g := (mem_t (List.mem_of_getElem? (i := 1999) (by decide +kernel)) rfl)
theorem lc46 : Cond.constantLong RX12 46 1836020596 ∈ lw_g := (mem_t (List.mem_of_getElem? (i := 2000) (by decide +kernel)) rfl)
theorem lc48 : Cond.constantLong RX12 48 1936292453 ∈ lw_g := (mem_t (List.mem_of_getElem? (i := 2001) (by decide +kernel)) rfl)
theorem lc50 : Cond.constantLong RX12 50 478593511270 ∈ lw_g := (mem_t (List.mem_of_getElem? (i := 2002) (by decide +kernel)) rfl)
theorem lc52 : Cond.constantLong RX12 52 422608400247 ∈ lw_g := (mem_t (List.mem_of_getElem? (i := 2003) (by decide +kernel)) rfl)
theorem lc54 : Cond.constantLong RX12 54 500086104428 ∈ lw_g := (mem_t (List.mem_of_getElem? (i := 2004) (by decide +kernel)) rfl)
theorem lc413 : Cond.constantLong RX12 413 6384748 ∈ lw_g := (mem_t (List.mem_of_getElem? (i := 1535) (by decide +kernel)) rfl)
theorem lc456 : Cond.constantLong RX12 456 118 ∈ lw_g := (mem_t (List.mem_of_getElem? (i := 2041) (by decide +kernel)) rfl)
theorem lc458 : Cond.constantLong RX12 458 97 ∈ lw_g := (mem_t (List.mem_of_getElem? (i := 2042) (by decide +kernel)) rfl)
theorem lc460 : Cond.constantLong RX12 460 98 ∈ lw_g := (mem_t (List.mem_of_getElem? (i := 2043) (by decide +kernel)) rfl)
theorem lc586 : Cond.constantLong RX12 586 255 ∈ lw_g := (mem_t (List.mem_of_getElem? (i := 2151) (by decide +kernel)) rfl)
theorem lc698 : Cond.constantLong RX12 698 9 ∈ lw_g := (mem_t (List.mem_of_getElem? (i := 2292) (by decide +kernel)) rfl)
theorem lc700 : Cond.constantLong RX12 700 10 ∈ lw_g := (mem_t (List.mem_of_getElem? (i := 2293) (by decide +kernel)) rfl)
theorem ic287 : Cond.constant RX12 287 (51840 : Int32) ∈ lw_g := (mem_t (List.mem_of_getElem? (i := 1532) (by decide +kernel)) rfl)
theorem ic330 : Cond.constant RX12 330 (48000 : Int32) ∈ lw_g := (mem_t (List.mem_of_getElem? (i := 1533) (by decide +kernel)) rfl)
theorem ic388 : Cond.constant RX12 388 (40000 : Int32) ∈ lw_g := (mem_t (List.mem_of_getElem? (i := 1534) (by decide +kernel)) rfl)
