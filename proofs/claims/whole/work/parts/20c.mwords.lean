theorem bw_18 : (.selects R_M y_M_put y_M_put : Cond) ∈ ft_big := ft_in 18 (by decide +kernel) rfl
theorem bw_19 : (.selects R_M y_M_sayGroups y_M_sayGroups : Cond) ∈ ft_big := ft_in 19 (by decide +kernel) rfl
theorem bw_20 : (.selects R_M y_M_groupEnd y_M_groupEnd : Cond) ∈ ft_big := ft_in 20 (by decide +kernel) rfl
theorem bw_21 : (.selects R_M y_M_say y_M_say : Cond) ∈ ft_big := ft_in 21 (by decide +kernel) rfl
theorem bw_22 : (.selects R_M y_M_sayTurned y_M_sayTurned : Cond) ∈ ft_big := ft_in 22 (by decide +kernel) rfl
theorem bw_23 : (.selects R_M y_M_take y_M_take : Cond) ∈ ft_big := ft_in 23 (by decide +kernel) rfl
theorem bw_24 : (.selects R_M y_M_ends y_M_ends : Cond) ∈ ft_big := ft_in 24 (by decide +kernel) rfl
theorem bw_25 : (.selects R_M y_M_isSo y_M_isSo : Cond) ∈ ft_big := ft_in 25 (by decide +kernel) rfl
theorem bw_26 : (.selects R_M y_M_begin y_M_begin : Cond) ∈ ft_big := ft_in 26 (by decide +kernel) rfl
theorem bw_27 : (.selects R_M y_M_comeGroup y_M_comeGroup : Cond) ∈ ft_big := ft_in 27 (by decide +kernel) rfl
theorem bw_28 : (.selects R_M y_M_keep y_M_keep : Cond) ∈ ft_big := ft_in 28 (by decide +kernel) rfl
theorem bw_29 : (.selects R_M y_M_comeTurned y_M_comeTurned : Cond) ∈ ft_big := ft_in 29 (by decide +kernel) rfl
theorem bw_30 : (.selects R_M y_M_isTurned y_M_isTurned : Cond) ∈ ft_big := ft_in 30 (by decide +kernel) rfl
theorem bw_39 : (.initialized R_M : Cond) ∈ ft_big := ft_in 39 (by decide +kernel) rfl
theorem bw_406 : (.methodLink R_M 1 objectInit : Cond) ∈ ft_big := ft_in 406 (by decide +kernel) rfl
theorem bw_407 : (.fieldLink R_M 48 "FramingTrioModel" "thrown" "I" : Cond) ∈ ft_big := ft_in 407 (by decide +kernel) rfl
theorem bw_408 : (.fieldLink R_M 7 "FramingTrioModel" "tape" "[I" : Cond) ∈ ft_big := ft_in 408 (by decide +kernel) rfl
theorem bw_409 : (.fieldLink R_M 51 "FramingTrioModel" "taped" "I" : Cond) ∈ ft_big := ft_in 409 (by decide +kernel) rfl
theorem bw_410 : (.fieldLink R_M 13 "FramingTrioModel" "limit" "I" : Cond) ∈ ft_big := ft_in 410 (by decide +kernel) rfl
theorem bw_411 : (.fieldLink R_M 17 "FramingTrioModel" "out" "[I" : Cond) ∈ ft_big := ft_in 411 (by decide +kernel) rfl
theorem bw_412 : (.fieldLink R_M 84 "FramingTrioModel" "size" "I" : Cond) ∈ ft_big := ft_in 412 (by decide +kernel) rfl
theorem bw_413 : (.fieldLink R_M 20 "FramingTrioModel" "frame" "[I" : Cond) ∈ ft_big := ft_in 413 (by decide +kernel) rfl
theorem bw_414 : (.fieldLink R_M 59 "FramingTrioModel" "framed" "I" : Cond) ∈ ft_big := ft_in 414 (by decide +kernel) rfl
theorem bw_415 : (.fieldLink R_M 23 "FramingTrioModel" "came" "[I" : Cond) ∈ ft_big := ft_in 415 (by decide +kernel) rfl
theorem bw_416 : (.fieldLink R_M 26 "FramingTrioModel" "many" "[I" : Cond) ∈ ft_big := ft_in 416 (by decide +kernel) rfl
theorem bw_417 : (.fieldLink R_M 29 "FramingTrioModel" "kept" "[I" : Cond) ∈ ft_big := ft_in 417 (by decide +kernel) rfl
theorem bw_418 : (.fieldLink R_M 32 "FramingTrioModel" "bad" "[Z" : Cond) ∈ ft_big := ft_in 418 (by decide +kernel) rfl
theorem bw_419 : (.fieldLink R_M 87 "FramingTrioModel" "left" "I" : Cond) ∈ ft_big := ft_in 419 (by decide +kernel) rfl
theorem bw_420 : (.fieldLink R_M 93 "FramingTrioModel" "full" "Z" : Cond) ∈ ft_big := ft_in 420 (by decide +kernel) rfl
theorem bw_421 : (.fieldLink R_M 36 "FramingTrioModel" "turns" "[Z" : Cond) ∈ ft_big := ft_in 421 (by decide +kernel) rfl
theorem bw_422 : (.fieldLink R_M 104 "FramingTrioModel" "first" "I" : Cond) ∈ ft_big := ft_in 422 (by decide +kernel) rfl
theorem bw_423 : (.fieldLink R_M 107 "FramingTrioModel" "second" "I" : Cond) ∈ ft_big := ft_in 423 (by decide +kernel) rfl
theorem bw_424 : (.fieldLink R_M 101 "FramingTrioModel" "check" "I" : Cond) ∈ ft_big := ft_in 424 (by decide +kernel) rfl
theorem bw_425 : (.fieldLink R_M 39 "FramingTrioModel" "latest" "[I" : Cond) ∈ ft_big := ft_in 425 (by decide +kernel) rfl
theorem bw_426 : (.fieldLink R_M 42 "FramingTrioModel" "good" "[I" : Cond) ∈ ft_big := ft_in 426 (by decide +kernel) rfl
theorem bw_427 : (.fieldLink R_M 45 "FramingTrioModel" "counts" "[I" : Cond) ∈ ft_big := ft_in 427 (by decide +kernel) rfl
theorem bw_471 : (.arrayClass .boolean : Cond) ∈ ft_big := ft_in 471 (by decide +kernel) rfl
theorem bw_476 : (.methodLink R_M 54 y_M_put : Cond) ∈ ft_big := ft_in 476 (by decide +kernel) rfl
theorem bw_478 : (.instanceMethod y_M_put : Cond) ∈ ft_big := ft_in 478 (by decide +kernel) rfl
set_option maxRecDepth 100000 in
theorem bw_479 : (.code y_M_put b_M_put 3 none : Cond) ∈ ft_big := ft_in 479 rfl rfl
theorem bw_492 : (.methodLink R_M 69 y_M_isWay : Cond) ∈ ft_big := ft_in 492 (by decide +kernel) rfl
theorem bw_493 : (.static y_M_isWay : Cond) ∈ ft_big := ft_in 493 (by decide +kernel) rfl
set_option maxRecDepth 100000 in
theorem bw_494 : (.code y_M_isWay b_M_isWay 1 (some .boolean) : Cond) ∈ ft_big := ft_in 494 rfl rfl
theorem bw_495 : (.methodLink R_M 73 y_M_sayGroups : Cond) ∈ ft_big := ft_in 495 (by decide +kernel) rfl
theorem bw_497 : (.instanceMethod y_M_sayGroups : Cond) ∈ ft_big := ft_in 497 (by decide +kernel) rfl
set_option maxRecDepth 100000 in
theorem bw_498 : (.code y_M_sayGroups b_M_sayGroups 6 none : Cond) ∈ ft_big := ft_in 498 rfl rfl
theorem bw_499 : (.methodLink R_M 65 y_M_groupEnd : Cond) ∈ ft_big := ft_in 499 (by decide +kernel) rfl
theorem bw_501 : (.instanceMethod y_M_groupEnd : Cond) ∈ ft_big := ft_in 501 (by decide +kernel) rfl
set_option maxRecDepth 100000 in
theorem bw_502 : (.code y_M_groupEnd b_M_groupEnd 4 (some .int) : Cond) ∈ ft_big := ft_in 502 rfl rfl
theorem bw_503 : (.methodLink R_M 62 y_M_say : Cond) ∈ ft_big := ft_in 503 (by decide +kernel) rfl
theorem bw_505 : (.instanceMethod y_M_say : Cond) ∈ ft_big := ft_in 505 (by decide +kernel) rfl
set_option maxRecDepth 100000 in
theorem bw_506 : (.code y_M_say b_M_say 2 none : Cond) ∈ ft_big := ft_in 506 rfl rfl
theorem bw_507 : (.constant R_M 76 65535 : Cond) ∈ ft_big := ft_in 507 (by decide +kernel) rfl
theorem bw_508 : (.methodLink R_M 77 y_M_sayTurned : Cond) ∈ ft_big := ft_in 508 (by decide +kernel) rfl
theorem bw_510 : (.instanceMethod y_M_sayTurned : Cond) ∈ ft_big := ft_in 510 (by decide +kernel) rfl
set_option maxRecDepth 100000 in
theorem bw_511 : (.code y_M_sayTurned b_M_sayTurned 4 none : Cond) ∈ ft_big := ft_in 511 rfl rfl
theorem bw_512 : (.methodLink R_M 81 y_M_checked : Cond) ∈ ft_big := ft_in 512 (by decide +kernel) rfl
theorem bw_513 : (.static y_M_checked : Cond) ∈ ft_big := ft_in 513 (by decide +kernel) rfl
set_option maxRecDepth 100000 in
theorem bw_514 : (.code y_M_checked b_M_checked 4 (some .int) : Cond) ∈ ft_big := ft_in 514 rfl rfl
theorem bw_515 : (.constant R_M 58 33800 : Cond) ∈ ft_big := ft_in 515 (by decide +kernel) rfl
theorem bw_532 : (.methodLink R_M 126 y_M_take : Cond) ∈ ft_big := ft_in 532 (by decide +kernel) rfl
theorem bw_534 : (.instanceMethod y_M_take : Cond) ∈ ft_big := ft_in 534 (by decide +kernel) rfl
set_option maxRecDepth 100000 in
theorem bw_535 : (.code y_M_take b_M_take 3 (some .int) : Cond) ∈ ft_big := ft_in 535 rfl rfl
theorem bw_536 : (.methodLink R_M 116 y_M_ends : Cond) ∈ ft_big := ft_in 536 (by decide +kernel) rfl
theorem bw_538 : (.instanceMethod y_M_ends : Cond) ∈ ft_big := ft_in 538 (by decide +kernel) rfl
set_option maxRecDepth 100000 in
theorem bw_539 : (.code y_M_ends b_M_ends 5 (some .int) : Cond) ∈ ft_big := ft_in 539 rfl rfl
theorem bw_540 : (.methodLink R_M 110 y_M_isSo : Cond) ∈ ft_big := ft_in 540 (by decide +kernel) rfl
theorem bw_542 : (.instanceMethod y_M_isSo : Cond) ∈ ft_big := ft_in 542 (by decide +kernel) rfl
set_option maxRecDepth 100000 in
theorem bw_543 : (.code y_M_isSo b_M_isSo 2 (some .boolean) : Cond) ∈ ft_big := ft_in 543 rfl rfl
theorem bw_544 : (.methodLink R_M 113 y_M_begin : Cond) ∈ ft_big := ft_in 544 (by decide +kernel) rfl
theorem bw_546 : (.instanceMethod y_M_begin : Cond) ∈ ft_big := ft_in 546 (by decide +kernel) rfl
set_option maxRecDepth 100000 in
theorem bw_547 : (.code y_M_begin b_M_begin 2 none : Cond) ∈ ft_big := ft_in 547 rfl rfl
theorem bw_548 : (.methodLink R_M 120 y_M_comeGroup : Cond) ∈ ft_big := ft_in 548 (by decide +kernel) rfl
theorem bw_550 : (.instanceMethod y_M_comeGroup : Cond) ∈ ft_big := ft_in 550 (by decide +kernel) rfl
set_option maxRecDepth 100000 in
theorem bw_551 : (.code y_M_comeGroup b_M_comeGroup 2 none : Cond) ∈ ft_big := ft_in 551 rfl rfl
theorem bw_552 : (.methodLink R_M 90 y_M_keep : Cond) ∈ ft_big := ft_in 552 (by decide +kernel) rfl
theorem bw_554 : (.instanceMethod y_M_keep : Cond) ∈ ft_big := ft_in 554 (by decide +kernel) rfl
set_option maxRecDepth 100000 in
theorem bw_555 : (.code y_M_keep b_M_keep 3 none : Cond) ∈ ft_big := ft_in 555 rfl rfl
theorem bw_556 : (.methodLink R_M 123 y_M_comeTurned : Cond) ∈ ft_big := ft_in 556 (by decide +kernel) rfl
theorem bw_558 : (.instanceMethod y_M_comeTurned : Cond) ∈ ft_big := ft_in 558 (by decide +kernel) rfl
set_option maxRecDepth 100000 in
theorem bw_559 : (.code y_M_comeTurned b_M_comeTurned 5 none : Cond) ∈ ft_big := ft_in 559 rfl rfl
theorem bw_560 : (.methodLink R_M 97 y_M_isTurned : Cond) ∈ ft_big := ft_in 560 (by decide +kernel) rfl
theorem bw_562 : (.instanceMethod y_M_isTurned : Cond) ∈ ft_big := ft_in 562 (by decide +kernel) rfl
set_option maxRecDepth 100000 in
theorem bw_563 : (.code y_M_isTurned b_M_isTurned 5 (some .boolean) : Cond) ∈ ft_big := ft_in 563 rfl rfl
