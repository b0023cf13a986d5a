theorem dq_g259 : decode cX10_init 421 = .ok (.bipush 110, 2) ∧ decode cX10_init 423 = .ok (.iastore, 1) ∧ decode cX10_init 424 = .ok (.dup, 1) ∧ decode cX10_init 425 = .ok (.bipush 42, 2) ∧ decode cX10_init 427 = .ok (.bipush 100, 2) ∧ decode cX10_init 429 = .ok (.iastore, 1) ∧ decode cX10_init 430 = .ok (.dup, 1) ∧ decode cX10_init 431 = .ok (.bipush 43, 2) ∧ decode cX10_init 433 = .ok (.bipush 32, 2) ∧ decode cX10_init 435 = .ok (.iastore, 1) ∧ decode cX10_init 436 = .ok (.dup, 1) ∧ decode cX10_init 437 = .ok (.bipush 44, 2) ∧ decode cX10_init 439 = .ok (.bipush 110, 2) ∧ decode cX10_init 441 = .ok (.iastore, 1) ∧ decode cX10_init 442 = .ok (.dup, 1) ∧ decode cX10_init 443 = .ok (.bipush 45, 2) ∧ decode cX10_init 445 = .ok (.bipush 111, 2) ∧ decode cX10_init 447 = .ok (.iastore, 1) ∧ decode cX10_init 448 = .ok (.dup, 1) ∧ decode cX10_init 449 = .ok (.bipush 46, 2) ∧ decode cX10_init 451 = .ok (.bipush 116, 2) ∧ decode cX10_init 453 = .ok (.iastore, 1) ∧ decode cX10_init 454 = .ok (.dup, 1) ∧ decode cX10_init 455 = .ok (.bipush 47, 2) ∧ decode cX10_init 457 = .ok (.bipush 32, 2) ∧ decode cX10_init 459 = .ok (.iastore, 1) ∧ decode cX10_init 460 = .ok (.dup, 1) ∧ decode cX10_init 461 = .ok (.bipush 48, 2) ∧ decode cX10_init 463 = .ok (.bipush 97, 2) ∧ decode cX10_init 465 = .ok (.iastore, 1) ∧ True := dqC_ok (c := cX10_init) [(421, 2, some (.bipush 110)), (423, 1, some (.iastore)), (424, 1, some (.dup)), (425, 2, some (.bipush 42)), (427, 2, some (.bipush 100)), (429, 1, some (.iastore)), (430, 1, some (.dup)), (431, 2, some (.bipush 43)), (433, 2, some (.bipush 32)), (435, 1, some (.iastore)), (436, 1, some (.dup)), (437, 2, some (.bipush 44)), (439, 2, some (.bipush 110)), (441, 1, some (.iastore)), (442, 1, some (.dup)), (443, 2, some (.bipush 45)), (445, 2, some (.bipush 111)), (447, 1, some (.iastore)), (448, 1, some (.dup)), (449, 2, some (.bipush 46)), (451, 2, some (.bipush 116)), (453, 1, some (.iastore)), (454, 1, some (.dup)), (455, 2, some (.bipush 47)), (457, 2, some (.bipush 32)), (459, 1, some (.iastore)), (460, 1, some (.dup)), (461, 2, some (.bipush 48)), (463, 2, some (.bipush 97)), (465, 1, some (.iastore))] _ 421 rfl (by decide +kernel)
theorem dX10_init_421 : decode cX10_init 421 = .ok (.bipush 110, 2) := dq_g259.1
theorem dX10_init_423 : decode cX10_init 423 = .ok (.iastore, 1) := dq_g259.2.1
theorem dX10_init_424 : decode cX10_init 424 = .ok (.dup, 1) := dq_g259.2.2.1
theorem dX10_init_425 : decode cX10_init 425 = .ok (.bipush 42, 2) := dq_g259.2.2.2.1
theorem dX10_init_427 : decode cX10_init 427 = .ok (.bipush 100, 2) := dq_g259.2.2.2.2.1
theorem dX10_init_429 : decode cX10_init 429 = .ok (.iastore, 1) := dq_g259.2.2.2.2.2.1
theorem dX10_init_430 : decode cX10_init 430 = .ok (.dup, 1) := dq_g259.2.2.2.2.2.2.1
theorem dX10_init_431 : decode cX10_init 431 = .ok (.bipush 43, 2) := dq_g259.2.2.2.2.2.2.2.1
theorem dX10_init_433 : decode cX10_init 433 = .ok (.bipush 32, 2) := dq_g259.2.2.2.2.2.2.2.2.1
theorem dX10_init_435 : decode cX10_init 435 = .ok (.iastore, 1) := dq_g259.2.2.2.2.2.2.2.2.2.1
theorem dX10_init_436 : decode cX10_init 436 = .ok (.dup, 1) := dq_g259.2.2.2.2.2.2.2.2.2.2.1
theorem dX10_init_437 : decode cX10_init 437 = .ok (.bipush 44, 2) := dq_g259.2.2.2.2.2.2.2.2.2.2.2.1
theorem dX10_init_439 : decode cX10_init 439 = .ok (.bipush 110, 2) := dq_g259.2.2.2.2.2.2.2.2.2.2.2.2.1
theorem dX10_init_441 : decode cX10_init 441 = .ok (.iastore, 1) := dq_g259.2.2.2.2.2.2.2.2.2.2.2.2.2.1
theorem dX10_init_442 : decode cX10_init 442 = .ok (.dup, 1) := dq_g259.2.2.2.2.2.2.2.2.2.2.2.2.2.2.1
theorem dX10_init_443 : decode cX10_init 443 = .ok (.bipush 45, 2) := dq_g259.2.2.2.2.2.2.2.2.2.2.2.2.2.2.2.1
theorem dX10_init_445 : decode cX10_init 445 = .ok (.bipush 111, 2) := dq_g259.2.2.2.2.2.2.2.2.2.2.2.2.2.2.2.2.1
theorem dX10_init_447 : decode cX10_init 447 = .ok (.iastore, 1) := dq_g259.2.2.2.2.2.2.2.2.2.2.2.2.2.2.2.2.2.1
theorem dX10_init_448 : decode cX10_init 448 = .ok (.dup, 1) := dq_g259.2.2.2.2.2.2.2.2.2.2.2.2.2.2.2.2.2.2.1
theorem dX10_init_449 : decode cX10_init 449 = .ok (.bipush 46, 2) := dq_g259.2.2.2.2.2.2.2.2.2.2.2.2.2.2.2.2.2.2.2.1
theorem dX10_init_451 : decode cX10_init 451 = .ok (.bipush 116, 2) := dq_g259.2.2.2.2.2.2.2.2.2.2.2.2.2.2.2.2.2.2.2.2.1
theorem dX10_init_453 : decode cX10_init 453 = .ok (.iastore, 1) := dq_g259.2.2.2.2.2.2.2.2.2.2.2.2.2.2.2.2.2.2.2.2.2.1
theorem dX10_init_454 : decode cX10_init 454 = .ok (.dup, 1) := dq_g259.2.2.2.2.2.2.2.2.2.2.2.2.2.2.2.2.2.2.2.2.2.2.1
theorem dX10_init_455 : decode cX10_init 455 = .ok (.bipush 47, 2) := dq_g259.2.2.2.2.2.2.2.2.2.2.2.2.2.2.2.2.2.2.2.2.2.2.2.1
theorem dX10_init_457 : decode cX10_init 457 = .ok (.bipush 32, 2) := dq_g259.2.2.2.2.2.2.2.2.2.2.2.2.2.2.2.2.2.2.2.2.2.2.2.2.1
theorem dX10_init_459 : decode cX10_init 459 = .ok (.iastore, 1) := dq_g259.2.2.2.2.2.2.2.2.2.2.2.2.2.2.2.2.2.2.2.2.2.2.2.2.2.1
theorem dX10_init_460 : decode cX10_init 460 = .ok (.dup, 1) := dq_g259.2.2.2.2.2.2.2.2.2.2.2.2.2.2.2.2.2.2.2.2.2.2.2.2.2.2.1
theorem dX10_init_461 : decode cX10_init 461 = .ok (.bipush 48, 2) := dq_g259.2.2.2.2.2.2.2.2.2.2.2.2.2.2.2.2.2.2.2.2.2.2.2.2.2.2.2.1
theorem dX10_init_463 : decode cX10_init 463 = .ok (.bipush 97, 2) := dq_g259.2.2.2.2.2.2.2.2.2.2.2.2.2.2.2.2.2.2.2.2.2.2.2.2.2.2.2.2.1
theorem dX10_init_465 : decode cX10_init 465 = .ok (.iastore, 1) := dq_g259.2.2.2.2.2.2.2.2.2.2.2.2.2.2.2.2.2.2.2.2.2.2.2.2.2.2.2.2.2.1
theorem dq_g260 : decode cX10_init 466 = .ok (.dup, 1) ∧ decode cX10_init 467 = .ok (.bipush 49, 2) ∧ decode cX10_init 469 = .ok (.bipush 116, 2) ∧ decode cX10_init 471 = .ok (.iastore, 1) ∧ decode cX10_init 472 = .ok (.dup, 1) ∧ decode cX10_init 473 = .ok (.bipush 50, 2) ∧ decode cX10_init 475 = .ok (.bipush 32, 2) ∧ decode cX10_init 477 = .ok (.iastore, 1) ∧ decode cX10_init 478 = .ok (.dup, 1) ∧ decode cX10_init 479 = .ok (.bipush 51, 2) ∧ decode cX10_init 481 = .ok (.bipush 115, 2) ∧ decode cX10_init 483 = .ok (.iastore, 1) ∧ decode cX10_init 484 = .ok (.dup, 1) ∧ decode cX10_init 485 = .ok (.bipush 52, 2) ∧ decode cX10_init 487 = .ok (.bipush 105, 2) ∧ decode cX10_init 489 = .ok (.iastore, 1) ∧ decode cX10_init 490 = .ok (.dup, 1) ∧ decode cX10_init 491 = .ok (.bipush 53, 2) ∧ decode cX10_init 493 = .ok (.bipush 122, 2) ∧ decode cX10_init 495 = .ok (.iastore, 1) ∧ decode cX10_init 496 = .ok (.dup, 1) ∧ decode cX10_init 497 = .ok (.bipush 54, 2) ∧ decode cX10_init 499 = .ok (.bipush 101, 2) ∧ decode cX10_init 501 = .ok (.iastore, 1) ∧ decode cX10_init 502 = .ok (.dup, 1) ∧ decode cX10_init 503 = .ok (.bipush 55, 2) ∧ decode cX10_init 505 = .ok (.bipush 32, 2) ∧ decode cX10_init 507 = .ok (.iastore, 1) ∧ decode cX10_init 508 = .ok (.dup, 1) ∧ decode cX10_init 509 = .ok (.bipush 56, 2) ∧ True := dqC_ok (c := cX10_init) [(466, 1, some (.dup)), (467, 2, some (.bipush 49)), (469, 2, some (.bipush 116)), (471, 1, some (.iastore)), (472, 1, some (.dup)), (473, 2, some (.bipush 50)), (475, 2, some (.bipush 32)), (477, 1, some (.iastore)), (478, 1, some (.dup)), (479, 2, some (.bipush 51)), (481, 2, some (.bipush 115)), (483, 1, some (.iastore)), (484, 1, some (.dup)), (485, 2, some (.bipush 52)), (487, 2, some (.bipush 105)), (489, 1, some (.iastore)), (490, 1, some (.dup)), (491, 2, some (.bipush 53)), (493, 2, some (.bipush 122)), (495, 1, some (.iastore)), (496, 1, some (.dup)), (497, 2, some (.bipush 54)), (499, 2, some (.bipush 101)), (501, 1, some (.iastore)), (502, 1, some (.dup)), (503, 2, some (.bipush 55)), (505, 2, some (.bipush 32)), (507, 1, some (.iastore)), (508, 1, some (.dup)), (509, 2, some (.bipush 56))] _ 466 rfl (by decide +kernel)
theorem dX10_init_466 : decode cX10_init 466 = .ok (.dup, 1) := dq_g260.1
theorem dX10_init_467 : decode cX10_init 467 = .ok (.bipush 49, 2) := dq_g260.2.1
theorem dX10_init_469 : decode cX10_init 469 = .ok (.bipush 116, 2) := dq_g260.2.2.1
theorem dX10_init_471 : decode cX10_init 471 = .ok (.iastore, 1) := dq_g260.2.2.2.1
theorem dX10_init_472 : decode cX10_init 472 = .ok (.dup, 1) := dq_g260.2.2.2.2.1
theorem dX10_init_473 : decode cX10_init 473 = .ok (.bipush 50, 2) := dq_g260.2.2.2.2.2.1
theorem dX10_init_475 : decode cX10_init 475 = .ok (.bipush 32, 2) := dq_g260.2.2.2.2.2.2.1
theorem dX10_init_477 : decode cX10_init 477 = .ok (.iastore, 1) := dq_g260.2.2.2.2.2.2.2.1
theorem dX10_init_478 : decode cX10_init 478 = .ok (.dup, 1) := dq_g260.2.2.2.2.2.2.2.2.1
theorem dX10_init_479 : decode cX10_init 479 = .ok (.bipush 51, 2) := dq_g260.2.2.2.2.2.2.2.2.2.1
theorem dX10_init_481 : decode cX10_init 481 = .ok (.bipush 115, 2) := dq_g260.2.2.2.2.2.2.2.2.2.2.1
theorem dX10_init_483 : decode cX10_init 483 = .ok (.iastore, 1) := dq_g260.2.2.2.2.2.2.2.2.2.2.2.1
theorem dX10_init_484 : decode cX10_init 484 = .ok (.dup, 1) := dq_g260.2.2.2.2.2.2.2.2.2.2.2.2.1
theorem dX10_init_485 : decode cX10_init 485 = .ok (.bipush 52, 2) := dq_g260.2.2.2.2.2.2.2.2.2.2.2.2.2.1
theorem dX10_init_487 : decode cX10_init 487 = .ok (.bipush 105, 2) := dq_g260.2.2.2.2.2.2.2.2.2.2.2.2.2.2.1
theorem dX10_init_489 : decode cX10_init 489 = .ok (.iastore, 1) := dq_g260.2.2.2.2.2.2.2.2.2.2.2.2.2.2.2.1
theorem dX10_init_490 : decode cX10_init 490 = .ok (.dup, 1) := dq_g260.2.2.2.2.2.2.2.2.2.2.2.2.2.2.2.2.1
theorem dX10_init_491 : decode cX10_init 491 = .ok (.bipush 53, 2) := dq_g260.2.2.2.2.2.2.2.2.2.2.2.2.2.2.2.2.2.1
theorem dX10_init_493 : decode cX10_init 493 = .ok (.bipush 122, 2) := dq_g260.2.2.2.2.2.2.2.2.2.2.2.2.2.2.2.2.2.2.1
theorem dX10_init_495 : decode cX10_init 495 = .ok (.iastore, 1) := dq_g260.2.2.2.2.2.2.2.2.2.2.2.2.2.2.2.2.2.2.2.1
theorem dX10_init_496 : decode cX10_init 496 = .ok (.dup, 1) := dq_g260.2.2.2.2.2.2.2.2.2.2.2.2.2.2.2.2.2.2.2.2.1
theorem dX10_init_497 : decode cX10_init 497 = .ok (.bipush 54, 2) := dq_g260.2.2.2.2.2.2.2.2.2.2.2.2.2.2.2.2.2.2.2.2.2.1
theorem dX10_init_499 : decode cX10_init 499 = .ok (.bipush 101, 2) := dq_g260.2.2.2.2.2.2.2.2.2.2.2.2.2.2.2.2.2.2.2.2.2.2.1
theorem dX10_init_501 : decode cX10_init 501 = .ok (.iastore, 1) := dq_g260.2.2.2.2.2.2.2.2.2.2.2.2.2.2.2.2.2.2.2.2.2.2.2.1
theorem dX10_init_502 : decode cX10_init 502 = .ok (.dup, 1) := dq_g260.2.2.2.2.2.2.2.2.2.2.2.2.2.2.2.2.2.2.2.2.2.2.2.2.1
theorem dX10_init_503 : decode cX10_init 503 = .ok (.bipush 55, 2) := dq_g260.2.2.2.2.2.2.2.2.2.2.2.2.2.2.2.2.2.2.2.2.2.2.2.2.2.1
theorem dX10_init_505 : decode cX10_init 505 = .ok (.bipush 32, 2) := dq_g260.2.2.2.2.2.2.2.2.2.2.2.2.2.2.2.2.2.2.2.2.2.2.2.2.2.2.1
theorem dX10_init_507 : decode cX10_init 507 = .ok (.iastore, 1) := dq_g260.2.2.2.2.2.2.2.2.2.2.2.2.2.2.2.2.2.2.2.2.2.2.2.2.2.2.2.1
theorem dX10_init_508 : decode cX10_init 508 = .ok (.dup, 1) := dq_g260.2.2.2.2.2.2.2.2.2.2.2.2.2.2.2.2.2.2.2.2.2.2.2.2.2.2.2.2.1
theorem dX10_init_509 : decode cX10_init 509 = .ok (.bipush 56, 2) := dq_g260.2.2.2.2.2.2.2.2.2.2.2.2.2.2.2.2.2.2.2.2.2.2.2.2.2.2.2.2.2.1
theorem dq_g261 : decode cX10_init 511 = .ok (.bipush 109, 2) ∧ decode cX10_init 513 = .ok (.iastore, 1) ∧ decode cX10_init 514 = .ok (.dup, 1) ∧ decode cX10_init 515 = .ok (.bipush 57, 2) ∧ decode cX10_init 517 = .ok (.bipush 105, 2) ∧ decode cX10_init 519 = .ok (.iastore, 1) ∧ decode cX10_init 520 = .ok (.dup, 1) ∧ decode cX10_init 521 = .ok (.bipush 58, 2) ∧ decode cX10_init 523 = .ok (.bipush 100, 2) ∧ decode cX10_init 525 = .ok (.iastore, 1) ∧ decode cX10_init 526 = .ok (.dup, 1) ∧ decode cX10_init 527 = .ok (.bipush 59, 2) ∧ decode cX10_init 529 = .ok (.bipush 32, 2) ∧ decode cX10_init 531 = .ok (.iastore, 1) ∧ decode cX10_init 532 = .ok (.dup, 1) ∧ decode cX10_init 533 = .ok (.bipush 60, 2) ∧ decode cX10_init 535 = .ok (.bipush 101, 2) ∧ decode cX10_init 537 = .ok (.iastore, 1) ∧ decode cX10_init 538 = .ok (.dup, 1) ∧ decode cX10_init 539 = .ok (.bipush 61, 2) ∧ decode cX10_init 541 = .ok (.bipush 110, 2) ∧ decode cX10_init 543 = .ok (.iastore, 1) ∧ decode cX10_init 544 = .ok (.dup, 1) ∧ decode cX10_init 545 = .ok (.bipush 62, 2) ∧ decode cX10_init 547 = .ok (.bipush 100, 2) ∧ decode cX10_init 549 = .ok (.iastore, 1) ∧ decode cX10_init 550 = .ok (.dup, 1) ∧ decode cX10_init 551 = .ok (.bipush 63, 2) ∧ decode cX10_init 553 = .ok (.bipush 32, 2) ∧ decode cX10_init 555 = .ok (.iastore, 1) ∧ True := dqC_ok (c := cX10_init) [(511, 2, some (.bipush 109)), (513, 1, some (.iastore)), (514, 1, some (.dup)), (515, 2, some (.bipush 57)), (517, 2, some (.bipush 105)), (519, 1, some (.iastore)), (520, 1, some (.dup)), (521, 2, some (.bipush 58)), (523, 2, some (.bipush 100)), (525, 1, some (.iastore)), (526, 1, some (.dup)), (527, 2, some (.bipush 59)), (529, 2, some (.bipush 32)), (531, 1, some (.iastore)), (532, 1, some (.dup)), (533, 2, some (.bipush 60)), (535, 2, some (.bipush 101)), (537, 1, some (.iastore)), (538, 1, some (.dup)), (539, 2, some (.bipush 61)), (541, 2, some (.bipush 110)), (543, 1, some (.iastore)), (544, 1, some (.dup)), (545, 2, some (.bipush 62)), (547, 2, some (.bipush 100)), (549, 1, some (.iastore)), (550, 1, some (.dup)), (551, 2, some (.bipush 63)), (553, 2, some (.bipush 32)), (555, 1, some (.iastore))] _ 511 rfl (by decide +kernel)
theorem dX10_init_511 : decode cX10_init 511 = .ok (.bipush 109, 2) := dq_g261.1
theorem dX10_init_513 : decode cX10_init 513 = .ok (.iastore, 1) := dq_g261.2.1
theorem dX10_init_514 : decode cX10_init 514 = .ok (.dup, 1) := dq_g261.2.2.1
theorem dX10_init_515 : decode cX10_init 515 = .ok (.bipush 57, 2) := dq_g261.2.2.2.1
theorem dX10_init_517 : decode cX10_init 517 = .ok (.bipush 105, 2) := dq_g261.2.2.2.2.1
theorem dX10_init_519 : decode cX10_init 519 = .ok (.iastore, 1) := dq_g261.2.2.2.2.2.1
theorem dX10_init_520 : decode cX10_init 520 = .ok (.dup, 1) := dq_g261.2.2.2.2.2.2.1
theorem dX10_init_521 : decode cX10_init 521 = .ok (.bipush 58, 2) := dq_g261.2.2.2.2.2.2.2.1
theorem dX10_init_523 : decode cX10_init 523 = .ok (.bipush 100, 2) := dq_g261.2.2.2.2.2.2.2.2.1
theorem dX10_init_525 : decode cX10_init 525 = .ok (.iastore, 1) := dq_g261.2.2.2.2.2.2.2.2.2.1
theorem dX10_init_526 : decode cX10_init 526 = .ok (.dup, 1) := dq_g261.2.2.2.2.2.2.2.2.2.2.1
theorem dX10_init_527 : decode cX10_init 527 = .ok (.bipush 59, 2) := dq_g261.2.2.2.2.2.2.2.2.2.2.2.1
theorem dX10_init_529 : decode cX10_init 529 = .ok (.bipush 32, 2) := dq_g261.2.2.2.2.2.2.2.2.2.2.2.2.1
theorem dX10_init_531 : decode cX10_init 531 = .ok (.iastore, 1) := dq_g261.2.2.2.2.2.2.2.2.2.2.2.2.2.1
theorem dX10_init_532 : decode cX10_init 532 = .ok (.dup, 1) := dq_g261.2.2.2.2.2.2.2.2.2.2.2.2.2.2.1
theorem dX10_init_533 : decode cX10_init 533 = .ok (.bipush 60, 2) := dq_g261.2.2.2.2.2.2.2.2.2.2.2.2.2.2.2.1
theorem dX10_init_535 : decode cX10_init 535 = .ok (.bipush 101, 2) := dq_g261.2.2.2.2.2.2.2.2.2.2.2.2.2.2.2.2.1
theorem dX10_init_537 : decode cX10_init 537 = .ok (.iastore, 1) := dq_g261.2.2.2.2.2.2.2.2.2.2.2.2.2.2.2.2.2.1
theorem dX10_init_538 : decode cX10_init 538 = .ok (.dup, 1) := dq_g261.2.2.2.2.2.2.2.2.2.2.2.2.2.2.2.2.2.2.1
theorem dX10_init_539 : decode cX10_init 539 = .ok (.bipush 61, 2) := dq_g261.2.2.2.2.2.2.2.2.2.2.2.2.2.2.2.2.2.2.2.1
theorem dX10_init_541 : decode cX10_init 541 = .ok (.bipush 110, 2) := dq_g261.2.2.2.2.2.2.2.2.2.2.2.2.2.2.2.2.2.2.2.2.1
theorem dX10_init_543 : decode cX10_init 543 = .ok (.iastore, 1) := dq_g261.2.2.2.2.2.2.2.2.2.2.2.2.2.2.2.2.2.2.2.2.2.1
theorem dX10_init_544 : decode cX10_init 544 = .ok (.dup, 1) := dq_g261.2.2.2.2.2.2.2.2.2.2.2.2.2.2.2.2.2.2.2.2.2.2.1
theorem dX10_init_545 : decode cX10_init 545 = .ok (.bipush 62, 2) := dq_g261.2.2.2.2.2.2.2.2.2.2.2.2.2.2.2.2.2.2.2.2.2.2.2.1
theorem dX10_init_547 : decode cX10_init 547 = .ok (.bipush 100, 2) := dq_g261.2.2.2.2.2.2.2.2.2.2.2.2.2.2.2.2.2.2.2.2.2.2.2.2.1
theorem dX10_init_549 : decode cX10_init 549 = .ok (.iastore, 1) := dq_g261.2.2.2.2.2.2.2.2.2.2.2.2.2.2.2.2.2.2.2.2.2.2.2.2.2.1
theorem dX10_init_550 : decode cX10_init 550 = .ok (.dup, 1) := dq_g261.2.2.2.2.2.2.2.2.2.2.2.2.2.2.2.2.2.2.2.2.2.2.2.2.2.2.1
theorem dX10_init_551 : decode cX10_init 551 = .ok (.bipush 63, 2) := dq_g261.2.2.2.2.2.2.2.2.2.2.2.2.2.2.2.2.2.2.2.2.2.2.2.2.2.2.2.1
theorem dX10_init_553 : decode cX10_init 553 = .ok (.bipush 32, 2) := dq_g261.2.2.2.2.2.2.2.2.2.2.2.2.2.2.2.2.2.2.2.2.2.2.2.2.2.2.2.2.1
theorem dX10_init_555 : decode cX10_init 555 = .ok (.iastore, 1) := dq_g261.2.2.2.2.2.2.2.2.2.2.2.2.2.2.2.2.2.2.2.2.2.2.2.2.2.2.2.2.2.1
theorem dq_g262 : decode cX10_init 556 = .ok (.dup, 1) ∧ decode cX10_init 557 = .ok (.bipush 64, 2) ∧ decode cX10_init 559 = .ok (.bipush 116, 2) ∧ decode cX10_init 561 = .ok (.iastore, 1) ∧ decode cX10_init 562 = .ok (.dup, 1) ∧ decode cX10_init 563 = .ok (.bipush 65, 2) ∧ decode cX10_init 565 = .ok (.bipush 104, 2) ∧ decode cX10_init 567 = .ok (.iastore, 1) ∧ decode cX10_init 568 = .ok (.dup, 1) ∧ decode cX10_init 569 = .ok (.bipush 66, 2) ∧ decode cX10_init 571 = .ok (.bipush 105, 2) ∧ decode cX10_init 573 = .ok (.iastore, 1) ∧ decode cX10_init 574 = .ok (.dup, 1) ∧ decode cX10_init 575 = .ok (.bipush 67, 2) ∧ decode cX10_init 577 = .ok (.bipush 99, 2) ∧ decode cX10_init 579 = .ok (.iastore, 1) ∧ decode cX10_init 580 = .ok (.dup, 1) ∧ decode cX10_init 581 = .ok (.bipush 68, 2) ∧ decode cX10_init 583 = .ok (.bipush 107, 2) ∧ decode cX10_init 585 = .ok (.iastore, 1) ∧ decode cX10_init 586 = .ok (.dup, 1) ∧ decode cX10_init 587 = .ok (.bipush 69, 2) ∧ decode cX10_init 589 = .ok (.bipush 32, 2) ∧ decode cX10_init 591 = .ok (.iastore, 1) ∧ decode cX10_init 592 = .ok (.dup, 1) ∧ decode cX10_init 593 = .ok (.bipush 70, 2) ∧ decode cX10_init 595 = .ok (.bipush 103, 2) ∧ decode cX10_init 597 = .ok (.iastore, 1) ∧ decode cX10_init 598 = .ok (.dup, 1) ∧ decode cX10_init 599 = .ok (.bipush 71, 2) ∧ True := dqC_ok (c := cX10_init) [(556, 1, some (.dup)), (557, 2, some (.bipush 64)), (559, 2, some (.bipush 116)), (561, 1, some (.iastore)), (562, 1, some (.dup)), (563, 2, some (.bipush 65)), (565, 2, some (.bipush 104)), (567, 1, some (.iastore)), (568, 1, some (.dup)), (569, 2, some (.bipush 66)), (571, 2, some (.bipush 105)), (573, 1, some (.iastore)), (574, 1, some (.dup)), (575, 2, some (.bipush 67)), (577, 2, some (.bipush 99)), (579, 1, some (.iastore)), (580, 1, some (.dup)), (581, 2, some (.bipush 68)), (583, 2, some (.bipush 107)), (585, 1, some (.iastore)), (586, 1, some (.dup)), (587, 2, some (.bipush 69)), (589, 2, some (.bipush 32)), (591, 1, some (.iastore)), (592, 1, some (.dup)), (593, 2, some (.bipush 70)), (595, 2, some (.bipush 103)), (597, 1, some (.iastore)), (598, 1, some (.dup)), (599, 2, some (.bipush 71))] _ 556 rfl (by decide +kernel)
theorem dX10_init_556 : decode cX10_init 556 = .ok (.dup, 1) := dq_g262.1
theorem dX10_init_557 : decode cX10_init 557 = .ok (.bipush 64, 2) := dq_g262.2.1
theorem dX10_init_559 : decode cX10_init 559 = .ok (.bipush 116, 2) := dq_g262.2.2.1
theorem dX10_init_561 : decode cX10_init 561 = .ok (.iastore, 1) := dq_g262.2.2.2.1
theorem dX10_init_562 : decode cX10_init 562 = .ok (.dup, 1) := dq_g262.2.2.2.2.1
theorem dX10_init_563 : decode cX10_init 563 = .ok (.bipush 65, 2) := dq_g262.2.2.2.2.2.1
theorem dX10_init_565 : decode cX10_init 565 = .ok (.bipush 104, 2) := dq_g262.2.2.2.2.2.2.1
theorem dX10_init_567 : decode cX10_init 567 = .ok (.iastore, 1) := dq_g262.2.2.2.2.2.2.2.1
theorem dX10_init_568 : decode cX10_init 568 = .ok (.dup, 1) := dq_g262.2.2.2.2.2.2.2.2.1
theorem dX10_init_569 : decode cX10_init 569 = .ok (.bipush 66, 2) := dq_g262.2.2.2.2.2.2.2.2.2.1
theorem dX10_init_571 : decode cX10_init 571 = .ok (.bipush 105, 2) := dq_g262.2.2.2.2.2.2.2.2.2.2.1
theorem dX10_init_573 : decode cX10_init 573 = .ok (.iastore, 1) := dq_g262.2.2.2.2.2.2.2.2.2.2.2.1
theorem dX10_init_574 : decode cX10_init 574 = .ok (.dup, 1) := dq_g262.2.2.2.2.2.2.2.2.2.2.2.2.1
theorem dX10_init_575 : decode cX10_init 575 = .ok (.bipush 67, 2) := dq_g262.2.2.2.2.2.2.2.2.2.2.2.2.2.1
theorem dX10_init_577 : decode cX10_init 577 = .ok (.bipush 99, 2) := dq_g262.2.2.2.2.2.2.2.2.2.2.2.2.2.2.1
theorem dX10_init_579 : decode cX10_init 579 = .ok (.iastore, 1) := dq_g262.2.2.2.2.2.2.2.2.2.2.2.2.2.2.2.1
theorem dX10_init_580 : decode cX10_init 580 = .ok (.dup, 1) := dq_g262.2.2.2.2.2.2.2.2.2.2.2.2.2.2.2.2.1
theorem dX10_init_581 : decode cX10_init 581 = .ok (.bipush 68, 2) := dq_g262.2.2.2.2.2.2.2.2.2.2.2.2.2.2.2.2.2.1
theorem dX10_init_583 : decode cX10_init 583 = .ok (.bipush 107, 2) := dq_g262.2.2.2.2.2.2.2.2.2.2.2.2.2.2.2.2.2.2.1
theorem dX10_init_585 : decode cX10_init 585 = .ok (.iastore, 1) := dq_g262.2.2.2.2.2.2.2.2.2.2.2.2.2.2.2.2.2.2.2.1
theorem dX10_init_586 : decode cX10_init 586 = .ok (.dup, 1) := dq_g262.2.2.2.2.2.2.2.2.2.2.2.2.2.2.2.2.2.2.2.2.1
theorem dX10_init_587 : decode cX10_init 587 = .ok (.bipush 69, 2) := dq_g262.2.2.2.2.2.2.2.2.2.2.2.2.2.2.2.2.2.2.2.2.2.1
theorem dX10_init_589 : decode cX10_init 589 = .ok (.bipush 32, 2) := dq_g262.2.2.2.2.2.2.2.2.2.2.2.2.2.2.2.2.2.2.2.2.2.2.1
theorem dX10_init_591 : decode cX10_init 591 = .ok (.iastore, 1) := dq_g262.2.2.2.2.2.2.2.2.2.2.2.2.2.2.2.2.2.2.2.2.2.2.2.1
theorem dX10_init_592 : decode cX10_init 592 = .ok (.dup, 1) := dq_g262.2.2.2.2.2.2.2.2.2.2.2.2.2.2.2.2.2.2.2.2.2.2.2.2.1
theorem dX10_init_593 : decode cX10_init 593 = .ok (.bipush 70, 2) := dq_g262.2.2.2.2.2.2.2.2.2.2.2.2.2.2.2.2.2.2.2.2.2.2.2.2.2.1
theorem dX10_init_595 : decode cX10_init 595 = .ok (.bipush 103, 2) := dq_g262.2.2.2.2.2.2.2.2.2.2.2.2.2.2.2.2.2.2.2.2.2.2.2.2.2.2.1
theorem dX10_init_597 : decode cX10_init 597 = .ok (.iastore, 1) := dq_g262.2.2.2.2.2.2.2.2.2.2.2.2.2.2.2.2.2.2.2.2.2.2.2.2.2.2.2.1
theorem dX10_init_598 : decode cX10_init 598 = .ok (.dup, 1) := dq_g262.2.2.2.2.2.2.2.2.2.2.2.2.2.2.2.2.2.2.2.2.2.2.2.2.2.2.2.2.1
theorem dX10_init_599 : decode cX10_init 599 = .ok (.bipush 71, 2) := dq_g262.2.2.2.2.2.2.2.2.2.2.2.2.2.2.2.2.2.2.2.2.2.2.2.2.2.2.2.2.2.1
theorem dq_g263 : decode cX10_init 601 = .ok (.bipush 114, 2) ∧ decode cX10_init 603 = .ok (.iastore, 1) ∧ decode cX10_init 604 = .ok (.dup, 1) ∧ decode cX10_init 605 = .ok (.bipush 72, 2) ∧ decode cX10_init 607 = .ok (.bipush 97, 2) ∧ decode cX10_init 609 = .ok (.iastore, 1) ∧ decode cX10_init 610 = .ok (.dup, 1) ∧ decode cX10_init 611 = .ok (.bipush 73, 2) ∧ decode cX10_init 613 = .ok (.bipush 105, 2) ∧ decode cX10_init 615 = .ok (.iastore, 1) ∧ decode cX10_init 616 = .ok (.dup, 1) ∧ decode cX10_init 617 = .ok (.bipush 74, 2) ∧ decode cX10_init 619 = .ok (.bipush 110, 2) ∧ decode cX10_init 621 = .ok (.iastore, 1) ∧ decode cX10_init 622 = .ok (.dup, 1) ∧ decode cX10_init 623 = .ok (.bipush 75, 2) ∧ decode cX10_init 625 = .ok (.bipush 32, 2) ∧ decode cX10_init 627 = .ok (.iastore, 1) ∧ decode cX10_init 628 = .ok (.dup, 1) ∧ decode cX10_init 629 = .ok (.bipush 76, 2) ∧ decode cX10_init 631 = .ok (.bipush 104, 2) ∧ decode cX10_init 633 = .ok (.iastore, 1) ∧ decode cX10_init 634 = .ok (.dup, 1) ∧ decode cX10_init 635 = .ok (.bipush 77, 2) ∧ decode cX10_init 637 = .ok (.bipush 101, 2) ∧ decode cX10_init 639 = .ok (.iastore, 1) ∧ decode cX10_init 640 = .ok (.dup, 1) ∧ decode cX10_init 641 = .ok (.bipush 78, 2) ∧ decode cX10_init 643 = .ok (.bipush 97, 2) ∧ decode cX10_init 645 = .ok (.iastore, 1) ∧ True := dqC_ok (c := cX10_init) [(601, 2, some (.bipush 114)), (603, 1, some (.iastore)), (604, 1, some (.dup)), (605, 2, some (.bipush 72)), (607, 2, some (.bipush 97)), (609, 1, some (.iastore)), (610, 1, some (.dup)), (611, 2, some (.bipush 73)), (613, 2, some (.bipush 105)), (615, 1, some (.iastore)), (616, 1, some (.dup)), (617, 2, some (.bipush 74)), (619, 2, some (.bipush 110)), (621, 1, some (.iastore)), (622, 1, some (.dup)), (623, 2, some (.bipush 75)), (625, 2, some (.bipush 32)), (627, 1, some (.iastore)), (628, 1, some (.dup)), (629, 2, some (.bipush 76)), (631, 2, some (.bipush 104)), (633, 1, some (.iastore)), (634, 1, some (.dup)), (635, 2, some (.bipush 77)), (637, 2, some (.bipush 101)), (639, 1, some (.iastore)), (640, 1, some (.dup)), (641, 2, some (.bipush 78)), (643, 2, some (.bipush 97)), (645, 1, some (.iastore))] _ 601 rfl (by decide +kernel)
theorem dX10_init_601 : decode cX10_init 601 = .ok (.bipush 114, 2) := dq_g263.1
theorem dX10_init_603 : decode cX10_init 603 = .ok (.iastore, 1) := dq_g263.2.1
theorem dX10_init_604 : decode cX10_init 604 = .ok (.dup, 1) := dq_g263.2.2.1
theorem dX10_init_605 : decode cX10_init 605 = .ok (.bipush 72, 2) := dq_g263.2.2.2.1
theorem dX10_init_607 : decode cX10_init 607 = .ok (.bipush 97, 2) := dq_g263.2.2.2.2.1
theorem dX10_init_609 : decode cX10_init 609 = .ok (.iastore, 1) := dq_g263.2.2.2.2.2.1
theorem dX10_init_610 : decode cX10_init 610 = .ok (.dup, 1) := dq_g263.2.2.2.2.2.2.1
theorem dX10_init_611 : decode cX10_init 611 = .ok (.bipush 73, 2) := dq_g263.2.2.2.2.2.2.2.1
theorem dX10_init_613 : decode cX10_init 613 = .ok (.bipush 105, 2) := dq_g263.2.2.2.2.2.2.2.2.1
theorem dX10_init_615 : decode cX10_init 615 = .ok (.iastore, 1) := dq_g263.2.2.2.2.2.2.2.2.2.1
theorem dX10_init_616 : decode cX10_init 616 = .ok (.dup, 1) := dq_g263.2.2.2.2.2.2.2.2.2.2.1
theorem dX10_init_617 : decode cX10_init 617 = .ok (.bipush 74, 2) := dq_g263.2.2.2.2.2.2.2.2.2.2.2.1
theorem dX10_init_619 : decode cX10_init 619 = .ok (.bipush 110, 2) := dq_g263.2.2.2.2.2.2.2.2.2.2.2.2.1
theorem dX10_init_621 : decode cX10_init 621 = .ok (.iastore, 1) := dq_g263.2.2.2.2.2.2.2.2.2.2.2.2.2.1
theorem dX10_init_622 : decode cX10_init 622 = .ok (.dup, 1) := dq_g263.2.2.2.2.2.2.2.2.2.2.2.2.2.2.1
theorem dX10_init_623 : decode cX10_init 623 = .ok (.bipush 75, 2) := dq_g263.2.2.2.2.2.2.2.2.2.2.2.2.2.2.2.1
theorem dX10_init_625 : decode cX10_init 625 = .ok (.bipush 32, 2) := dq_g263.2.2.2.2.2.2.2.2.2.2.2.2.2.2.2.2.1
theorem dX10_init_627 : decode cX10_init 627 = .ok (.iastore, 1) := dq_g263.2.2.2.2.2.2.2.2.2.2.2.2.2.2.2.2.2.1
theorem dX10_init_628 : decode cX10_init 628 = .ok (.dup, 1) := dq_g263.2.2.2.2.2.2.2.2.2.2.2.2.2.2.2.2.2.2.1
theorem dX10_init_629 : decode cX10_init 629 = .ok (.bipush 76, 2) := dq_g263.2.2.2.2.2.2.2.2.2.2.2.2.2.2.2.2.2.2.2.1
theorem dX10_init_631 : decode cX10_init 631 = .ok (.bipush 104, 2) := dq_g263.2.2.2.2.2.2.2.2.2.2.2.2.2.2.2.2.2.2.2.2.1
theorem dX10_init_633 : decode cX10_init 633 = .ok (.iastore, 1) := dq_g263.2.2.2.2.2.2.2.2.2.2.2.2.2.2.2.2.2.2.2.2.2.1
theorem dX10_init_634 : decode cX10_init 634 = .ok (.dup, 1) := dq_g263.2.2.2.2.2.2.2.2.2.2.2.2.2.2.2.2.2.2.2.2.2.2.1
theorem dX10_init_635 : decode cX10_init 635 = .ok (.bipush 77, 2) := dq_g263.2.2.2.2.2.2.2.2.2.2.2.2.2.2.2.2.2.2.2.2.2.2.2.1
theorem dX10_init_637 : decode cX10_init 637 = .ok (.bipush 101, 2) := dq_g263.2.2.2.2.2.2.2.2.2.2.2.2.2.2.2.2.2.2.2.2.2.2.2.2.1
theorem dX10_init_639 : decode cX10_init 639 = .ok (.iastore, 1) := dq_g263.2.2.2.2.2.2.2.2.2.2.2.2.2.2.2.2.2.2.2.2.2.2.2.2.2.1
theorem dX10_init_640 : decode cX10_init 640 = .ok (.dup, 1) := dq_g263.2.2.2.2.2.2.2.2.2.2.2.2.2.2.2.2.2.2.2.2.2.2.2.2.2.2.1
theorem dX10_init_641 : decode cX10_init 641 = .ok (.bipush 78, 2) := dq_g263.2.2.2.2.2.2.2.2.2.2.2.2.2.2.2.2.2.2.2.2.2.2.2.2.2.2.2.1
theorem dX10_init_643 : decode cX10_init 643 = .ok (.bipush 97, 2) := dq_g263.2.2.2.2.2.2.2.2.2.2.2.2.2.2.2.2.2.2.2.2.2.2.2.2.2.2.2.2.1
theorem dX10_init_645 : decode cX10_init 645 = .ok (.iastore, 1) := dq_g263.2.2.2.2.2.2.2.2.2.2.2.2.2.2.2.2.2.2.2.2.2.2.2.2.2.2.2.2.2.1
theorem dq_g264 : decode cX10_init 646 = .ok (.dup, 1) ∧ decode cX10_init 647 = .ok (.bipush 79, 2) ∧ decode cX10_init 649 = .ok (.bipush 118, 2) ∧ decode cX10_init 651 = .ok (.iastore, 1) ∧ decode cX10_init 652 = .ok (.dup, 1) ∧ decode cX10_init 653 = .ok (.bipush 80, 2) ∧ decode cX10_init 655 = .ok (.bipush 121, 2) ∧ decode cX10_init 657 = .ok (.iastore, 1) ∧ decode cX10_init 658 = .ok (.dup, 1) ∧ decode cX10_init 659 = .ok (.bipush 81, 2) ∧ decode cX10_init 661 = .ok (.bipush 32, 2) ∧ decode cX10_init 663 = .ok (.iastore, 1) ∧ decode cX10_init 664 = .ok (.dup, 1) ∧ decode cX10_init 665 = .ok (.bipush 82, 2) ∧ decode cX10_init 667 = .ok (.bipush 119, 2) ∧ decode cX10_init 669 = .ok (.iastore, 1) ∧ decode cX10_init 670 = .ok (.dup, 1) ∧ decode cX10_init 671 = .ok (.bipush 83, 2) ∧ decode cX10_init 673 = .ok (.bipush 97, 2) ∧ decode cX10_init 675 = .ok (.iastore, 1) ∧ decode cX10_init 676 = .ok (.dup, 1) ∧ decode cX10_init 677 = .ok (.bipush 84, 2) ∧ decode cX10_init 679 = .ok (.bipush 120, 2) ∧ decode cX10_init 681 = .ok (.iastore, 1) ∧ decode cX10_init 682 = .ok (.dup, 1) ∧ decode cX10_init 683 = .ok (.bipush 85, 2) ∧ decode cX10_init 685 = .ok (.bipush 32, 2) ∧ decode cX10_init 687 = .ok (.iastore, 1) ∧ decode cX10_init 688 = .ok (.dup, 1) ∧ decode cX10_init 689 = .ok (.bipush 86, 2) ∧ True := dqC_ok (c := cX10_init) [(646, 1, some (.dup)), (647, 2, some (.bipush 79)), (649, 2, some (.bipush 118)), (651, 1, some (.iastore)), (652, 1, some (.dup)), (653, 2, some (.bipush 80)), (655, 2, some (.bipush 121)), (657, 1, some (.iastore)), (658, 1, some (.dup)), (659, 2, some (.bipush 81)), (661, 2, some (.bipush 32)), (663, 1, some (.iastore)), (664, 1, some (.dup)), (665, 2, some (.bipush 82)), (667, 2, some (.bipush 119)), (669, 1, some (.iastore)), (670, 1, some (.dup)), (671, 2, some (.bipush 83)), (673, 2, some (.bipush 97)), (675, 1, some (.iastore)), (676, 1, some (.dup)), (677, 2, some (.bipush 84)), (679, 2, some (.bipush 120)), (681, 1, some (.iastore)), (682, 1, some (.dup)), (683, 2, some (.bipush 85)), (685, 2, some (.bipush 32)), (687, 1, some (.iastore)), (688, 1, some (.dup)), (689, 2, some (.bipush 86))] _ 646 rfl (by decide +kernel)
theorem dX10_init_646 : decode cX10_init 646 = .ok (.dup, 1) := dq_g264.1
theorem dX10_init_647 : decode cX10_init 647 = .ok (.bipush 79, 2) := dq_g264.2.1
theorem dX10_init_649 : decode cX10_init 649 = .ok (.bipush 118, 2) := dq_g264.2.2.1
theorem dX10_init_651 : decode cX10_init 651 = .ok (.iastore, 1) := dq_g264.2.2.2.1
theorem dX10_init_652 : decode cX10_init 652 = .ok (.dup, 1) := dq_g264.2.2.2.2.1
theorem dX10_init_653 : decode cX10_init 653 = .ok (.bipush 80, 2) := dq_g264.2.2.2.2.2.1
theorem dX10_init_655 : decode cX10_init 655 = .ok (.bipush 121, 2) := dq_g264.2.2.2.2.2.2.1
theorem dX10_init_657 : decode cX10_init 657 = .ok (.iastore, 1) := dq_g264.2.2.2.2.2.2.2.1
theorem dX10_init_658 : decode cX10_init 658 = .ok (.dup, 1) := dq_g264.2.2.2.2.2.2.2.2.1
theorem dX10_init_659 : decode cX10_init 659 = .ok (.bipush 81, 2) := dq_g264.2.2.2.2.2.2.2.2.2.1
theorem dX10_init_661 : decode cX10_init 661 = .ok (.bipush 32, 2) := dq_g264.2.2.2.2.2.2.2.2.2.2.1
theorem dX10_init_663 : decode cX10_init 663 = .ok (.iastore, 1) := dq_g264.2.2.2.2.2.2.2.2.2.2.2.1
theorem dX10_init_664 : decode cX10_init 664 = .ok (.dup, 1) := dq_g264.2.2.2.2.2.2.2.2.2.2.2.2.1
theorem dX10_init_665 : decode cX10_init 665 = .ok (.bipush 82, 2) := dq_g264.2.2.2.2.2.2.2.2.2.2.2.2.2.1
theorem dX10_init_667 : decode cX10_init 667 = .ok (.bipush 119, 2) := dq_g264.2.2.2.2.2.2.2.2.2.2.2.2.2.2.1
theorem dX10_init_669 : decode cX10_init 669 = .ok (.iastore, 1) := dq_g264.2.2.2.2.2.2.2.2.2.2.2.2.2.2.2.1
theorem dX10_init_670 : decode cX10_init 670 = .ok (.dup, 1) := dq_g264.2.2.2.2.2.2.2.2.2.2.2.2.2.2.2.2.1
theorem dX10_init_671 : decode cX10_init 671 = .ok (.bipush 83, 2) := dq_g264.2.2.2.2.2.2.2.2.2.2.2.2.2.2.2.2.2.1
theorem dX10_init_673 : decode cX10_init 673 = .ok (.bipush 97, 2) := dq_g264.2.2.2.2.2.2.2.2.2.2.2.2.2.2.2.2.2.2.1
theorem dX10_init_675 : decode cX10_init 675 = .ok (.iastore, 1) := dq_g264.2.2.2.2.2.2.2.2.2.2.2.2.2.2.2.2.2.2.2.1
theorem dX10_init_676 : decode cX10_init 676 = .ok (.dup, 1) := dq_g264.2.2.2.2.2.2.2.2.2.2.2.2.2.2.2.2.2.2.2.2.1
theorem dX10_init_677 : decode cX10_init 677 = .ok (.bipush 84, 2) := dq_g264.2.2.2.2.2.2.2.2.2.2.2.2.2.2.2.2.2.2.2.2.2.1
theorem dX10_init_679 : decode cX10_init 679 = .ok (.bipush 120, 2) := dq_g264.2.2.2.2.2.2.2.2.2.2.2.2.2.2.2.2.2.2.2.2.2.2.1
theorem dX10_init_681 : decode cX10_init 681 = .ok (.iastore, 1) := dq_g264.2.2.2.2.2.2.2.2.2.2.2.2.2.2.2.2.2.2.2.2.2.2.2.1
theorem dX10_init_682 : decode cX10_init 682 = .ok (.dup, 1) := dq_g264.2.2.2.2.2.2.2.2.2.2.2.2.2.2.2.2.2.2.2.2.2.2.2.2.1
theorem dX10_init_683 : decode cX10_init 683 = .ok (.bipush 85, 2) := dq_g264.2.2.2.2.2.2.2.2.2.2.2.2.2.2.2.2.2.2.2.2.2.2.2.2.2.1
theorem dX10_init_685 : decode cX10_init 685 = .ok (.bipush 32, 2) := dq_g264.2.2.2.2.2.2.2.2.2.2.2.2.2.2.2.2.2.2.2.2.2.2.2.2.2.2.1
theorem dX10_init_687 : decode cX10_init 687 = .ok (.iastore, 1) := dq_g264.2.2.2.2.2.2.2.2.2.2.2.2.2.2.2.2.2.2.2.2.2.2.2.2.2.2.2.1
theorem dX10_init_688 : decode cX10_init 688 = .ok (.dup, 1) := dq_g264.2.2.2.2.2.2.2.2.2.2.2.2.2.2.2.2.2.2.2.2.2.2.2.2.2.2.2.2.1
theorem dX10_init_689 : decode cX10_init 689 = .ok (.bipush 86, 2) := dq_g264.2.2.2.2.2.2.2.2.2.2.2.2.2.2.2.2.2.2.2.2.2.2.2.2.2.2.2.2.2.1
theorem dq_g265 : decode cX10_init 691 = .ok (.bipush 104, 2) ∧ decode cX10_init 693 = .ok (.iastore, 1) ∧ decode cX10_init 694 = .ok (.dup, 1) ∧ decode cX10_init 695 = .ok (.bipush 87, 2) ∧ decode cX10_init 697 = .ok (.bipush 101, 2) ∧ decode cX10_init 699 = .ok (.iastore, 1) ∧ decode cX10_init 700 = .ok (.dup, 1) ∧ decode cX10_init 701 = .ok (.bipush 88, 2) ∧ decode cX10_init 703 = .ok (.bipush 97, 2) ∧ decode cX10_init 705 = .ok (.iastore, 1) ∧ decode cX10_init 706 = .ok (.dup, 1) ∧ decode cX10_init 707 = .ok (.bipush 89, 2) ∧ decode cX10_init 709 = .ok (.bipush 116, 2) ∧ decode cX10_init 711 = .ok (.iastore, 1) ∧ decode cX10_init 712 = .ok (.dup, 1) ∧ decode cX10_init 713 = .ok (.bipush 90, 2) ∧ decode cX10_init 715 = .ok (.bipush 32, 2) ∧ decode cX10_init 717 = .ok (.iastore, 1) ∧ decode cX10_init 718 = .ok (.dup, 1) ∧ decode cX10_init 719 = .ok (.bipush 91, 2) ∧ decode cX10_init 721 = .ok (.bipush 119, 2) ∧ decode cX10_init 723 = .ok (.iastore, 1) ∧ decode cX10_init 724 = .ok (.dup, 1) ∧ decode cX10_init 725 = .ok (.bipush 92, 2) ∧ decode cX10_init 727 = .ok (.bipush 101, 2) ∧ decode cX10_init 729 = .ok (.iastore, 1) ∧ decode cX10_init 730 = .ok (.dup, 1) ∧ decode cX10_init 731 = .ok (.bipush 93, 2) ∧ decode cX10_init 733 = .ok (.bipush 116, 2) ∧ decode cX10_init 735 = .ok (.iastore, 1) ∧ True := dqC_ok (c := cX10_init) [(691, 2, some (.bipush 104)), (693, 1, some (.iastore)), (694, 1, some (.dup)), (695, 2, some (.bipush 87)), (697, 2, some (.bipush 101)), (699, 1, some (.iastore)), (700, 1, some (.dup)), (701, 2, some (.bipush 88)), (703, 2, some (.bipush 97)), (705, 1, some (.iastore)), (706, 1, some (.dup)), (707, 2, some (.bipush 89)), (709, 2, some (.bipush 116)), (711, 1, some (.iastore)), (712, 1, some (.dup)), (713, 2, some (.bipush 90)), (715, 2, some (.bipush 32)), (717, 1, some (.iastore)), (718, 1, some (.dup)), (719, 2, some (.bipush 91)), (721, 2, some (.bipush 119)), (723, 1, some (.iastore)), (724, 1, some (.dup)), (725, 2, some (.bipush 92)), (727, 2, some (.bipush 101)), (729, 1, some (.iastore)), (730, 1, some (.dup)), (731, 2, some (.bipush 93)), (733, 2, some (.bipush 116)), (735, 1, some (.iastore))] _ 691 rfl (by decide +kernel)
theorem dX10_init_691 : decode cX10_init 691 = .ok (.bipush 104, 2) := dq_g265.1
theorem dX10_init_693 : decode cX10_init 693 = .ok (.iastore, 1) := dq_g265.2.1
theorem dX10_init_694 : decode cX10_init 694 = .ok (.dup, 1) := dq_g265.2.2.1
theorem dX10_init_695 : decode cX10_init 695 = .ok (.bipush 87, 2) := dq_g265.2.2.2.1
theorem dX10_init_697 : decode cX10_init 697 = .ok (.bipush 101, 2) := dq_g265.2.2.2.2.1
theorem dX10_init_699 : decode cX10_init 699 = .ok (.iastore, 1) := dq_g265.2.2.2.2.2.1
theorem dX10_init_700 : decode cX10_init 700 = .ok (.dup, 1) := dq_g265.2.2.2.2.2.2.1
theorem dX10_init_701 : decode cX10_init 701 = .ok (.bipush 88, 2) := dq_g265.2.2.2.2.2.2.2.1
theorem dX10_init_703 : decode cX10_init 703 = .ok (.bipush 97, 2) := dq_g265.2.2.2.2.2.2.2.2.1
theorem dX10_init_705 : decode cX10_init 705 = .ok (.iastore, 1) := dq_g265.2.2.2.2.2.2.2.2.2.1
theorem dX10_init_706 : decode cX10_init 706 = .ok (.dup, 1) := dq_g265.2.2.2.2.2.2.2.2.2.2.1
theorem dX10_init_707 : decode cX10_init 707 = .ok (.bipush 89, 2) := dq_g265.2.2.2.2.2.2.2.2.2.2.2.1
theorem dX10_init_709 : decode cX10_init 709 = .ok (.bipush 116, 2) := dq_g265.2.2.2.2.2.2.2.2.2.2.2.2.1
theorem dX10_init_711 : decode cX10_init 711 = .ok (.iastore, 1) := dq_g265.2.2.2.2.2.2.2.2.2.2.2.2.2.1
theorem dX10_init_712 : decode cX10_init 712 = .ok (.dup, 1) := dq_g265.2.2.2.2.2.2.2.2.2.2.2.2.2.2.1
theorem dX10_init_713 : decode cX10_init 713 = .ok (.bipush 90, 2) := dq_g265.2.2.2.2.2.2.2.2.2.2.2.2.2.2.2.1
theorem dX10_init_715 : decode cX10_init 715 = .ok (.bipush 32, 2) := dq_g265.2.2.2.2.2.2.2.2.2.2.2.2.2.2.2.2.1
theorem dX10_init_717 : decode cX10_init 717 = .ok (.iastore, 1) := dq_g265.2.2.2.2.2.2.2.2.2.2.2.2.2.2.2.2.2.1
theorem dX10_init_718 : decode cX10_init 718 = .ok (.dup, 1) := dq_g265.2.2.2.2.2.2.2.2.2.2.2.2.2.2.2.2.2.2.1
theorem dX10_init_719 : decode cX10_init 719 = .ok (.bipush 91, 2) := dq_g265.2.2.2.2.2.2.2.2.2.2.2.2.2.2.2.2.2.2.2.1
theorem dX10_init_721 : decode cX10_init 721 = .ok (.bipush 119, 2) := dq_g265.2.2.2.2.2.2.2.2.2.2.2.2.2.2.2.2.2.2.2.2.1
theorem dX10_init_723 : decode cX10_init 723 = .ok (.iastore, 1) := dq_g265.2.2.2.2.2.2.2.2.2.2.2.2.2.2.2.2.2.2.2.2.2.1
theorem dX10_init_724 : decode cX10_init 724 = .ok (.dup, 1) := dq_g265.2.2.2.2.2.2.2.2.2.2.2.2.2.2.2.2.2.2.2.2.2.2.1
theorem dX10_init_725 : decode cX10_init 725 = .ok (.bipush 92, 2) := dq_g265.2.2.2.2.2.2.2.2.2.2.2.2.2.2.2.2.2.2.2.2.2.2.2.1
theorem dX10_init_727 : decode cX10_init 727 = .ok (.bipush 101, 2) := dq_g265.2.2.2.2.2.2.2.2.2.2.2.2.2.2.2.2.2.2.2.2.2.2.2.2.1
theorem dX10_init_729 : decode cX10_init 729 = .ok (.iastore, 1) := dq_g265.2.2.2.2.2.2.2.2.2.2.2.2.2.2.2.2.2.2.2.2.2.2.2.2.2.1
theorem dX10_init_730 : decode cX10_init 730 = .ok (.dup, 1) := dq_g265.2.2.2.2.2.2.2.2.2.2.2.2.2.2.2.2.2.2.2.2.2.2.2.2.2.2.1
theorem dX10_init_731 : decode cX10_init 731 = .ok (.bipush 93, 2) := dq_g265.2.2.2.2.2.2.2.2.2.2.2.2.2.2.2.2.2.2.2.2.2.2.2.2.2.2.2.1
theorem dX10_init_733 : decode cX10_init 733 = .ok (.bipush 116, 2) := dq_g265.2.2.2.2.2.2.2.2.2.2.2.2.2.2.2.2.2.2.2.2.2.2.2.2.2.2.2.2.1
theorem dX10_init_735 : decode cX10_init 735 = .ok (.iastore, 1) := dq_g265.2.2.2.2.2.2.2.2.2.2.2.2.2.2.2.2.2.2.2.2.2.2.2.2.2.2.2.2.2.1
theorem dq_g266 : decode cX10_init 736 = .ok (.dup, 1) ∧ decode cX10_init 737 = .ok (.bipush 94, 2) ∧ decode cX10_init 739 = .ok (.bipush 32, 2) ∧ decode cX10_init 741 = .ok (.iastore, 1) ∧ decode cX10_init 742 = .ok (.dup, 1) ∧ decode cX10_init 743 = .ok (.bipush 95, 2) ∧ decode cX10_init 745 = .ok (.bipush 108, 2) ∧ decode cX10_init 747 = .ok (.iastore, 1) ∧ decode cX10_init 748 = .ok (.dup, 1) ∧ decode cX10_init 749 = .ok (.bipush 96, 2) ∧ decode cX10_init 751 = .ok (.bipush 111, 2) ∧ decode cX10_init 753 = .ok (.iastore, 1) ∧ decode cX10_init 754 = .ok (.dup, 1) ∧ decode cX10_init 755 = .ok (.bipush 97, 2) ∧ decode cX10_init 757 = .ok (.bipush 119, 2) ∧ decode cX10_init 759 = .ok (.iastore, 1) ∧ decode cX10_init 760 = .ok (.dup, 1) ∧ decode cX10_init 761 = .ok (.bipush 98, 2) ∧ decode cX10_init 763 = .ok (.bipush 32, 2) ∧ decode cX10_init 765 = .ok (.iastore, 1) ∧ decode cX10_init 766 = .ok (.dup, 1) ∧ decode cX10_init 767 = .ok (.bipush 99, 2) ∧ decode cX10_init 769 = .ok (.bipush 104, 2) ∧ decode cX10_init 771 = .ok (.iastore, 1) ∧ decode cX10_init 772 = .ok (.dup, 1) ∧ decode cX10_init 773 = .ok (.bipush 100, 2) ∧ decode cX10_init 775 = .ok (.bipush 105, 2) ∧ decode cX10_init 777 = .ok (.iastore, 1) ∧ decode cX10_init 778 = .ok (.dup, 1) ∧ decode cX10_init 779 = .ok (.bipush 101, 2) ∧ True := dqC_ok (c := cX10_init) [(736, 1, some (.dup)), (737, 2, some (.bipush 94)), (739, 2, some (.bipush 32)), (741, 1, some (.iastore)), (742, 1, some (.dup)), (743, 2, some (.bipush 95)), (745, 2, some (.bipush 108)), (747, 1, some (.iastore)), (748, 1, some (.dup)), (749, 2, some (.bipush 96)), (751, 2, some (.bipush 111)), (753, 1, some (.iastore)), (754, 1, some (.dup)), (755, 2, some (.bipush 97)), (757, 2, some (.bipush 119)), (759, 1, some (.iastore)), (760, 1, some (.dup)), (761, 2, some (.bipush 98)), (763, 2, some (.bipush 32)), (765, 1, some (.iastore)), (766, 1, some (.dup)), (767, 2, some (.bipush 99)), (769, 2, some (.bipush 104)), (771, 1, some (.iastore)), (772, 1, some (.dup)), (773, 2, some (.bipush 100)), (775, 2, some (.bipush 105)), (777, 1, some (.iastore)), (778, 1, some (.dup)), (779, 2, some (.bipush 101))] _ 736 rfl (by decide +kernel)
theorem dX10_init_736 : decode cX10_init 736 = .ok (.dup, 1) := dq_g266.1
theorem dX10_init_737 : decode cX10_init 737 = .ok (.bipush 94, 2) := dq_g266.2.1
theorem dX10_init_739 : decode cX10_init 739 = .ok (.bipush 32, 2) := dq_g266.2.2.1
theorem dX10_init_741 : decode cX10_init 741 = .ok (.iastore, 1) := dq_g266.2.2.2.1
theorem dX10_init_742 : decode cX10_init 742 = .ok (.dup, 1) := dq_g266.2.2.2.2.1
theorem dX10_init_743 : decode cX10_init 743 = .ok (.bipush 95, 2) := dq_g266.2.2.2.2.2.1
theorem dX10_init_745 : decode cX10_init 745 = .ok (.bipush 108, 2) := dq_g266.2.2.2.2.2.2.1
theorem dX10_init_747 : decode cX10_init 747 = .ok (.iastore, 1) := dq_g266.2.2.2.2.2.2.2.1
theorem dX10_init_748 : decode cX10_init 748 = .ok (.dup, 1) := dq_g266.2.2.2.2.2.2.2.2.1
theorem dX10_init_749 : decode cX10_init 749 = .ok (.bipush 96, 2) := dq_g266.2.2.2.2.2.2.2.2.2.1
theorem dX10_init_751 : decode cX10_init 751 = .ok (.bipush 111, 2) := dq_g266.2.2.2.2.2.2.2.2.2.2.1
theorem dX10_init_753 : decode cX10_init 753 = .ok (.iastore, 1) := dq_g266.2.2.2.2.2.2.2.2.2.2.2.1
theorem dX10_init_754 : decode cX10_init 754 = .ok (.dup, 1) := dq_g266.2.2.2.2.2.2.2.2.2.2.2.2.1
theorem dX10_init_755 : decode cX10_init 755 = .ok (.bipush 97, 2) := dq_g266.2.2.2.2.2.2.2.2.2.2.2.2.2.1
theorem dX10_init_757 : decode cX10_init 757 = .ok (.bipush 119, 2) := dq_g266.2.2.2.2.2.2.2.2.2.2.2.2.2.2.1
theorem dX10_init_759 : decode cX10_init 759 = .ok (.iastore, 1) := dq_g266.2.2.2.2.2.2.2.2.2.2.2.2.2.2.2.1
theorem dX10_init_760 : decode cX10_init 760 = .ok (.dup, 1) := dq_g266.2.2.2.2.2.2.2.2.2.2.2.2.2.2.2.2.1
theorem dX10_init_761 : decode cX10_init 761 = .ok (.bipush 98, 2) := dq_g266.2.2.2.2.2.2.2.2.2.2.2.2.2.2.2.2.2.1
theorem dX10_init_763 : decode cX10_init 763 = .ok (.bipush 32, 2) := dq_g266.2.2.2.2.2.2.2.2.2.2.2.2.2.2.2.2.2.2.1
theorem dX10_init_765 : decode cX10_init 765 = .ok (.iastore, 1) := dq_g266.2.2.2.2.2.2.2.2.2.2.2.2.2.2.2.2.2.2.2.1
theorem dX10_init_766 : decode cX10_init 766 = .ok (.dup, 1) := dq_g266.2.2.2.2.2.2.2.2.2.2.2.2.2.2.2.2.2.2.2.2.1
theorem dX10_init_767 : decode cX10_init 767 = .ok (.bipush 99, 2) := dq_g266.2.2.2.2.2.2.2.2.2.2.2.2.2.2.2.2.2.2.2.2.2.1
theorem dX10_init_769 : decode cX10_init 769 = .ok (.bipush 104, 2) := dq_g266.2.2.2.2.2.2.2.2.2.2.2.2.2.2.2.2.2.2.2.2.2.2.1
theorem dX10_init_771 : decode cX10_init 771 = .ok (.iastore, 1) := dq_g266.2.2.2.2.2.2.2.2.2.2.2.2.2.2.2.2.2.2.2.2.2.2.2.1
theorem dX10_init_772 : decode cX10_init 772 = .ok (.dup, 1) := dq_g266.2.2.2.2.2.2.2.2.2.2.2.2.2.2.2.2.2.2.2.2.2.2.2.2.1
theorem dX10_init_773 : decode cX10_init 773 = .ok (.bipush 100, 2) := dq_g266.2.2.2.2.2.2.2.2.2.2.2.2.2.2.2.2.2.2.2.2.2.2.2.2.2.1
theorem dX10_init_775 : decode cX10_init 775 = .ok (.bipush 105, 2) := dq_g266.2.2.2.2.2.2.2.2.2.2.2.2.2.2.2.2.2.2.2.2.2.2.2.2.2.2.1
theorem dX10_init_777 : decode cX10_init 777 = .ok (.iastore, 1) := dq_g266.2.2.2.2.2.2.2.2.2.2.2.2.2.2.2.2.2.2.2.2.2.2.2.2.2.2.2.1
theorem dX10_init_778 : decode cX10_init 778 = .ok (.dup, 1) := dq_g266.2.2.2.2.2.2.2.2.2.2.2.2.2.2.2.2.2.2.2.2.2.2.2.2.2.2.2.2.1
theorem dX10_init_779 : decode cX10_init 779 = .ok (.bipush 101, 2) := dq_g266.2.2.2.2.2.2.2.2.2.2.2.2.2.2.2.2.2.2.2.2.2.2.2.2.2.2.2.2.2.1
theorem dq_g267 : decode cX10_init 781 = .ok (.bipush 103, 2) ∧ decode cX10_init 783 = .ok (.iastore, 1) ∧ decode cX10_init 784 = .ok (.dup, 1) ∧ decode cX10_init 785 = .ok (.bipush 102, 2) ∧ decode cX10_init 787 = .ok (.bipush 104, 2) ∧ decode cX10_init 789 = .ok (.iastore, 1) ∧ decode cX10_init 790 = .ok (.dup, 1) ∧ decode cX10_init 791 = .ok (.bipush 103, 2) ∧ decode cX10_init 793 = .ok (.bipush 32, 2) ∧ decode cX10_init 795 = .ok (.iastore, 1) ∧ decode cX10_init 796 = .ok (.dup, 1) ∧ decode cX10_init 797 = .ok (.bipush 104, 2) ∧ decode cX10_init 799 = .ok (.bipush 116, 2) ∧ decode cX10_init 801 = .ok (.iastore, 1) ∧ decode cX10_init 802 = .ok (.dup, 1) ∧ decode cX10_init 803 = .ok (.bipush 105, 2) ∧ decode cX10_init 805 = .ok (.bipush 111, 2) ∧ decode cX10_init 807 = .ok (.iastore, 1) ∧ decode cX10_init 808 = .ok (.dup, 1) ∧ decode cX10_init 809 = .ok (.bipush 106, 2) ∧ decode cX10_init 811 = .ok (.bipush 112, 2) ∧ decode cX10_init 813 = .ok (.iastore, 1) ∧ decode cX10_init 814 = .ok (.dup, 1) ∧ decode cX10_init 815 = .ok (.bipush 107, 2) ∧ decode cX10_init 817 = .ok (.bipush 32, 2) ∧ decode cX10_init 819 = .ok (.iastore, 1) ∧ decode cX10_init 820 = .ok (.dup, 1) ∧ decode cX10_init 821 = .ok (.bipush 108, 2) ∧ decode cX10_init 823 = .ok (.bipush 112, 2) ∧ decode cX10_init 825 = .ok (.iastore, 1) ∧ True := dqC_ok (c := cX10_init) [(781, 2, some (.bipush 103)), (783, 1, some (.iastore)), (784, 1, some (.dup)), (785, 2, some (.bipush 102)), (787, 2, some (.bipush 104)), (789, 1, some (.iastore)), (790, 1, some (.dup)), (791, 2, some (.bipush 103)), (793, 2, some (.bipush 32)), (795, 1, some (.iastore)), (796, 1, some (.dup)), (797, 2, some (.bipush 104)), (799, 2, some (.bipush 116)), (801, 1, some (.iastore)), (802, 1, some (.dup)), (803, 2, some (.bipush 105)), (805, 2, some (.bipush 111)), (807, 1, some (.iastore)), (808, 1, some (.dup)), (809, 2, some (.bipush 106)), (811, 2, some (.bipush 112)), (813, 1, some (.iastore)), (814, 1, some (.dup)), (815, 2, some (.bipush 107)), (817, 2, some (.bipush 32)), (819, 1, some (.iastore)), (820, 1, some (.dup)), (821, 2, some (.bipush 108)), (823, 2, some (.bipush 112)), (825, 1, some (.iastore))] _ 781 rfl (by decide +kernel)
theorem dX10_init_781 : decode cX10_init 781 = .ok (.bipush 103, 2) := dq_g267.1
theorem dX10_init_783 : decode cX10_init 783 = .ok (.iastore, 1) := dq_g267.2.1
theorem dX10_init_784 : decode cX10_init 784 = .ok (.dup, 1) := dq_g267.2.2.1
theorem dX10_init_785 : decode cX10_init 785 = .ok (.bipush 102, 2) := dq_g267.2.2.2.1
theorem dX10_init_787 : decode cX10_init 787 = .ok (.bipush 104, 2) := dq_g267.2.2.2.2.1
theorem dX10_init_789 : decode cX10_init 789 = .ok (.iastore, 1) := dq_g267.2.2.2.2.2.1
theorem dX10_init_790 : decode cX10_init 790 = .ok (.dup, 1) := dq_g267.2.2.2.2.2.2.1
theorem dX10_init_791 : decode cX10_init 791 = .ok (.bipush 103, 2) := dq_g267.2.2.2.2.2.2.2.1
theorem dX10_init_793 : decode cX10_init 793 = .ok (.bipush 32, 2) := dq_g267.2.2.2.2.2.2.2.2.1
theorem dX10_init_795 : decode cX10_init 795 = .ok (.iastore, 1) := dq_g267.2.2.2.2.2.2.2.2.2.1
theorem dX10_init_796 : decode cX10_init 796 = .ok (.dup, 1) := dq_g267.2.2.2.2.2.2.2.2.2.2.1
theorem dX10_init_797 : decode cX10_init 797 = .ok (.bipush 104, 2) := dq_g267.2.2.2.2.2.2.2.2.2.2.2.1
theorem dX10_init_799 : decode cX10_init 799 = .ok (.bipush 116, 2) := dq_g267.2.2.2.2.2.2.2.2.2.2.2.2.1
theorem dX10_init_801 : decode cX10_init 801 = .ok (.iastore, 1) := dq_g267.2.2.2.2.2.2.2.2.2.2.2.2.2.1
theorem dX10_init_802 : decode cX10_init 802 = .ok (.dup, 1) := dq_g267.2.2.2.2.2.2.2.2.2.2.2.2.2.2.1
theorem dX10_init_803 : decode cX10_init 803 = .ok (.bipush 105, 2) := dq_g267.2.2.2.2.2.2.2.2.2.2.2.2.2.2.2.1
theorem dX10_init_805 : decode cX10_init 805 = .ok (.bipush 111, 2) := dq_g267.2.2.2.2.2.2.2.2.2.2.2.2.2.2.2.2.1
theorem dX10_init_807 : decode cX10_init 807 = .ok (.iastore, 1) := dq_g267.2.2.2.2.2.2.2.2.2.2.2.2.2.2.2.2.2.1
theorem dX10_init_808 : decode cX10_init 808 = .ok (.dup, 1) := dq_g267.2.2.2.2.2.2.2.2.2.2.2.2.2.2.2.2.2.2.1
theorem dX10_init_809 : decode cX10_init 809 = .ok (.bipush 106, 2) := dq_g267.2.2.2.2.2.2.2.2.2.2.2.2.2.2.2.2.2.2.2.1
theorem dX10_init_811 : decode cX10_init 811 = .ok (.bipush 112, 2) := dq_g267.2.2.2.2.2.2.2.2.2.2.2.2.2.2.2.2.2.2.2.2.1
theorem dX10_init_813 : decode cX10_init 813 = .ok (.iastore, 1) := dq_g267.2.2.2.2.2.2.2.2.2.2.2.2.2.2.2.2.2.2.2.2.2.1
theorem dX10_init_814 : decode cX10_init 814 = .ok (.dup, 1) := dq_g267.2.2.2.2.2.2.2.2.2.2.2.2.2.2.2.2.2.2.2.2.2.2.1
theorem dX10_init_815 : decode cX10_init 815 = .ok (.bipush 107, 2) := dq_g267.2.2.2.2.2.2.2.2.2.2.2.2.2.2.2.2.2.2.2.2.2.2.2.1
theorem dX10_init_817 : decode cX10_init 817 = .ok (.bipush 32, 2) := dq_g267.2.2.2.2.2.2.2.2.2.2.2.2.2.2.2.2.2.2.2.2.2.2.2.2.1
theorem dX10_init_819 : decode cX10_init 819 = .ok (.iastore, 1) := dq_g267.2.2.2.2.2.2.2.2.2.2.2.2.2.2.2.2.2.2.2.2.2.2.2.2.2.1
theorem dX10_init_820 : decode cX10_init 820 = .ok (.dup, 1) := dq_g267.2.2.2.2.2.2.2.2.2.2.2.2.2.2.2.2.2.2.2.2.2.2.2.2.2.2.1
theorem dX10_init_821 : decode cX10_init 821 = .ok (.bipush 108, 2) := dq_g267.2.2.2.2.2.2.2.2.2.2.2.2.2.2.2.2.2.2.2.2.2.2.2.2.2.2.2.1
theorem dX10_init_823 : decode cX10_init 823 = .ok (.bipush 112, 2) := dq_g267.2.2.2.2.2.2.2.2.2.2.2.2.2.2.2.2.2.2.2.2.2.2.2.2.2.2.2.2.1
theorem dX10_init_825 : decode cX10_init 825 = .ok (.iastore, 1) := dq_g267.2.2.2.2.2.2.2.2.2.2.2.2.2.2.2.2.2.2.2.2.2.2.2.2.2.2.2.2.2.1
theorem dq_g268 : decode cX10_init 826 = .ok (.dup, 1) ∧ decode cX10_init 827 = .ok (.bipush 109, 2) ∧ decode cX10_init 829 = .ok (.bipush 97, 2) ∧ decode cX10_init 831 = .ok (.iastore, 1) ∧ decode cX10_init 832 = .ok (.dup, 1) ∧ decode cX10_init 833 = .ok (.bipush 110, 2) ∧ decode cX10_init 835 = .ok (.bipush 115, 2) ∧ decode cX10_init 837 = .ok (.iastore, 1) ∧ decode cX10_init 838 = .ok (.dup, 1) ∧ decode cX10_init 839 = .ok (.bipush 111, 2) ∧ decode cX10_init 841 = .ok (.bipush 115, 2) ∧ decode cX10_init 843 = .ok (.iastore, 1) ∧ decode cX10_init 844 = .ok (.dup, 1) ∧ decode cX10_init 845 = .ok (.bipush 112, 2) ∧ decode cX10_init 847 = .ok (.bipush 101, 2) ∧ decode cX10_init 849 = .ok (.iastore, 1) ∧ decode cX10_init 850 = .ok (.dup, 1) ∧ decode cX10_init 851 = .ok (.bipush 113, 2) ∧ decode cX10_init 853 = .ok (.bipush 115, 2) ∧ decode cX10_init 855 = .ok (.iastore, 1) ∧ decode cX10_init 856 = .ok (.dup, 1) ∧ decode cX10_init 857 = .ok (.bipush 114, 2) ∧ decode cX10_init 859 = .ok (.bipush 32, 2) ∧ decode cX10_init 861 = .ok (.iastore, 1) ∧ decode cX10_init 862 = .ok (.putfield 56, 3) ∧ decode cX10_init 865 = .ok (.aload_n 0, 1) ∧ decode cX10_init 866 = .ok (.bipush 7, 2) ∧ decode cX10_init 870 = .ok (.putfield 59, 3) ∧ decode cX10_init 873 = .ok (.aload_n 0, 1) ∧ True := dqC_ok (c := cX10_init) [(826, 1, some (.dup)), (827, 2, some (.bipush 109)), (829, 2, some (.bipush 97)), (831, 1, some (.iastore)), (832, 1, some (.dup)), (833, 2, some (.bipush 110)), (835, 2, some (.bipush 115)), (837, 1, some (.iastore)), (838, 1, some (.dup)), (839, 2, some (.bipush 111)), (841, 2, some (.bipush 115)), (843, 1, some (.iastore)), (844, 1, some (.dup)), (845, 2, some (.bipush 112)), (847, 2, some (.bipush 101)), (849, 1, some (.iastore)), (850, 1, some (.dup)), (851, 2, some (.bipush 113)), (853, 2, some (.bipush 115)), (855, 1, some (.iastore)), (856, 1, some (.dup)), (857, 2, some (.bipush 114)), (859, 2, some (.bipush 32)), (861, 1, some (.iastore)), (862, 3, some (.putfield 56)), (865, 1, some (.aload_n 0)), (866, 2, some (.bipush 7)), (868, 2, none), (870, 3, some (.putfield 59)), (873, 1, some (.aload_n 0))] _ 826 rfl (by decide +kernel)
theorem dX10_init_826 : decode cX10_init 826 = .ok (.dup, 1) := dq_g268.1
theorem dX10_init_827 : decode cX10_init 827 = .ok (.bipush 109, 2) := dq_g268.2.1
theorem dX10_init_829 : decode cX10_init 829 = .ok (.bipush 97, 2) := dq_g268.2.2.1
theorem dX10_init_831 : decode cX10_init 831 = .ok (.iastore, 1) := dq_g268.2.2.2.1
theorem dX10_init_832 : decode cX10_init 832 = .ok (.dup, 1) := dq_g268.2.2.2.2.1
theorem dX10_init_833 : decode cX10_init 833 = .ok (.bipush 110, 2) := dq_g268.2.2.2.2.2.1
theorem dX10_init_835 : decode cX10_init 835 = .ok (.bipush 115, 2) := dq_g268.2.2.2.2.2.2.1
theorem dX10_init_837 : decode cX10_init 837 = .ok (.iastore, 1) := dq_g268.2.2.2.2.2.2.2.1
theorem dX10_init_838 : decode cX10_init 838 = .ok (.dup, 1) := dq_g268.2.2.2.2.2.2.2.2.1
theorem dX10_init_839 : decode cX10_init 839 = .ok (.bipush 111, 2) := dq_g268.2.2.2.2.2.2.2.2.2.1
theorem dX10_init_841 : decode cX10_init 841 = .ok (.bipush 115, 2) := dq_g268.2.2.2.2.2.2.2.2.2.2.1
theorem dX10_init_843 : decode cX10_init 843 = .ok (.iastore, 1) := dq_g268.2.2.2.2.2.2.2.2.2.2.2.1
theorem dX10_init_844 : decode cX10_init 844 = .ok (.dup, 1) := dq_g268.2.2.2.2.2.2.2.2.2.2.2.2.1
theorem dX10_init_845 : decode cX10_init 845 = .ok (.bipush 112, 2) := dq_g268.2.2.2.2.2.2.2.2.2.2.2.2.2.1
theorem dX10_init_847 : decode cX10_init 847 = .ok (.bipush 101, 2) := dq_g268.2.2.2.2.2.2.2.2.2.2.2.2.2.2.1
theorem dX10_init_849 : decode cX10_init 849 = .ok (.iastore, 1) := dq_g268.2.2.2.2.2.2.2.2.2.2.2.2.2.2.2.1
theorem dX10_init_850 : decode cX10_init 850 = .ok (.dup, 1) := dq_g268.2.2.2.2.2.2.2.2.2.2.2.2.2.2.2.2.1
theorem dX10_init_851 : decode cX10_init 851 = .ok (.bipush 113, 2) := dq_g268.2.2.2.2.2.2.2.2.2.2.2.2.2.2.2.2.2.1
theorem dX10_init_853 : decode cX10_init 853 = .ok (.bipush 115, 2) := dq_g268.2.2.2.2.2.2.2.2.2.2.2.2.2.2.2.2.2.2.1
theorem dX10_init_855 : decode cX10_init 855 = .ok (.iastore, 1) := dq_g268.2.2.2.2.2.2.2.2.2.2.2.2.2.2.2.2.2.2.2.1
theorem dX10_init_856 : decode cX10_init 856 = .ok (.dup, 1) := dq_g268.2.2.2.2.2.2.2.2.2.2.2.2.2.2.2.2.2.2.2.2.1
theorem dX10_init_857 : decode cX10_init 857 = .ok (.bipush 114, 2) := dq_g268.2.2.2.2.2.2.2.2.2.2.2.2.2.2.2.2.2.2.2.2.2.1
theorem dX10_init_859 : decode cX10_init 859 = .ok (.bipush 32, 2) := dq_g268.2.2.2.2.2.2.2.2.2.2.2.2.2.2.2.2.2.2.2.2.2.2.1
theorem dX10_init_861 : decode cX10_init 861 = .ok (.iastore, 1) := dq_g268.2.2.2.2.2.2.2.2.2.2.2.2.2.2.2.2.2.2.2.2.2.2.2.1
theorem dX10_init_862 : decode cX10_init 862 = .ok (.putfield 56, 3) := dq_g268.2.2.2.2.2.2.2.2.2.2.2.2.2.2.2.2.2.2.2.2.2.2.2.2.1
theorem dX10_init_865 : decode cX10_init 865 = .ok (.aload_n 0, 1) := dq_g268.2.2.2.2.2.2.2.2.2.2.2.2.2.2.2.2.2.2.2.2.2.2.2.2.2.1
theorem dX10_init_866 : decode cX10_init 866 = .ok (.bipush 7, 2) := dq_g268.2.2.2.2.2.2.2.2.2.2.2.2.2.2.2.2.2.2.2.2.2.2.2.2.2.2.1
theorem dX10_init_870 : decode cX10_init 870 = .ok (.putfield 59, 3) := dq_g268.2.2.2.2.2.2.2.2.2.2.2.2.2.2.2.2.2.2.2.2.2.2.2.2.2.2.2.1
theorem dX10_init_873 : decode cX10_init 873 = .ok (.aload_n 0, 1) := dq_g268.2.2.2.2.2.2.2.2.2.2.2.2.2.2.2.2.2.2.2.2.2.2.2.2.2.2.2.2.1
theorem dX10_init_868 : decode cX10_init 868 = .ok (.newarray .int, 2) := by decide +kernel
theorem dq_g269 : decode cX10_init 874 = .ok (.bipush 112, 2) ∧ decode cX10_init 878 = .ok (.putfield 62, 3) ∧ decode cX10_init 881 = .ok (.aload_n 0, 1) ∧ decode cX10_init 882 = .ok (.bipush 112, 2) ∧ decode cX10_init 886 = .ok (.putfield 65, 3) ∧ decode cX10_init 889 = .ok (.aload_n 0, 1) ∧ decode cX10_init 890 = .ok (.bipush 112, 2) ∧ decode cX10_init 894 = .ok (.putfield 68, 3) ∧ decode cX10_init 897 = .ok (.aload_n 0, 1) ∧ decode cX10_init 898 = .ok (.bipush 112, 2) ∧ decode cX10_init 902 = .ok (.putfield 71, 3) ∧ decode cX10_init 905 = .ok (.aload_n 0, 1) ∧ decode cX10_init 906 = .ok (.bipush 112, 2) ∧ decode cX10_init 910 = .ok (.putfield 74, 3) ∧ decode cX10_init 913 = .ok (.aload_n 0, 1) ∧ decode cX10_init 914 = .ok (.bipush 112, 2) ∧ decode cX10_init 918 = .ok (.putfield 77, 3) ∧ decode cX10_init 921 = .ok (.aload_n 0, 1) ∧ decode cX10_init 922 = .ok (.bipush 112, 2) ∧ decode cX10_init 926 = .ok (.putfield 80, 3) ∧ decode cX10_init 929 = .ok (.aload_n 0, 1) ∧ decode cX10_init 930 = .ok (.sipush 3500, 3) ∧ True := dqC_ok (c := cX10_init) [(874, 2, some (.bipush 112)), (876, 2, none), (878, 3, some (.putfield 62)), (881, 1, some (.aload_n 0)), (882, 2, some (.bipush 112)), (884, 2, none), (886, 3, some (.putfield 65)), (889, 1, some (.aload_n 0)), (890, 2, some (.bipush 112)), (892, 2, none), (894, 3, some (.putfield 68)), (897, 1, some (.aload_n 0)), (898, 2, some (.bipush 112)), (900, 2, none), (902, 3, some (.putfield 71)), (905, 1, some (.aload_n 0)), (906, 2, some (.bipush 112)), (908, 2, none), (910, 3, some (.putfield 74)), (913, 1, some (.aload_n 0)), (914, 2, some (.bipush 112)), (916, 2, none), (918, 3, some (.putfield 77)), (921, 1, some (.aload_n 0)), (922, 2, some (.bipush 112)), (924, 2, none), (926, 3, some (.putfield 80)), (929, 1, some (.aload_n 0)), (930, 3, some (.sipush 3500)), (933, 2, none)] _ 874 rfl (by decide +kernel)
theorem dX10_init_874 : decode cX10_init 874 = .ok (.bipush 112, 2) := dq_g269.1
theorem dX10_init_878 : decode cX10_init 878 = .ok (.putfield 62, 3) := dq_g269.2.1
theorem dX10_init_881 : decode cX10_init 881 = .ok (.aload_n 0, 1) := dq_g269.2.2.1
theorem dX10_init_882 : decode cX10_init 882 = .ok (.bipush 112, 2) := dq_g269.2.2.2.1
theorem dX10_init_886 : decode cX10_init 886 = .ok (.putfield 65, 3) := dq_g269.2.2.2.2.1
theorem dX10_init_889 : decode cX10_init 889 = .ok (.aload_n 0, 1) := dq_g269.2.2.2.2.2.1
theorem dX10_init_890 : decode cX10_init 890 = .ok (.bipush 112, 2) := dq_g269.2.2.2.2.2.2.1
theorem dX10_init_894 : decode cX10_init 894 = .ok (.putfield 68, 3) := dq_g269.2.2.2.2.2.2.2.1
theorem dX10_init_897 : decode cX10_init 897 = .ok (.aload_n 0, 1) := dq_g269.2.2.2.2.2.2.2.2.1
theorem dX10_init_898 : decode cX10_init 898 = .ok (.bipush 112, 2) := dq_g269.2.2.2.2.2.2.2.2.2.1
theorem dX10_init_902 : decode cX10_init 902 = .ok (.putfield 71, 3) := dq_g269.2.2.2.2.2.2.2.2.2.2.1
theorem dX10_init_905 : decode cX10_init 905 = .ok (.aload_n 0, 1) := dq_g269.2.2.2.2.2.2.2.2.2.2.2.1
theorem dX10_init_906 : decode cX10_init 906 = .ok (.bipush 112, 2) := dq_g269.2.2.2.2.2.2.2.2.2.2.2.2.1
theorem dX10_init_910 : decode cX10_init 910 = .ok (.putfield 74, 3) := dq_g269.2.2.2.2.2.2.2.2.2.2.2.2.2.1
theorem dX10_init_913 : decode cX10_init 913 = .ok (.aload_n 0, 1) := dq_g269.2.2.2.2.2.2.2.2.2.2.2.2.2.2.1
theorem dX10_init_914 : decode cX10_init 914 = .ok (.bipush 112, 2) := dq_g269.2.2.2.2.2.2.2.2.2.2.2.2.2.2.2.1
theorem dX10_init_918 : decode cX10_init 918 = .ok (.putfield 77, 3) := dq_g269.2.2.2.2.2.2.2.2.2.2.2.2.2.2.2.2.1
theorem dX10_init_921 : decode cX10_init 921 = .ok (.aload_n 0, 1) := dq_g269.2.2.2.2.2.2.2.2.2.2.2.2.2.2.2.2.2.1
theorem dX10_init_922 : decode cX10_init 922 = .ok (.bipush 112, 2) := dq_g269.2.2.2.2.2.2.2.2.2.2.2.2.2.2.2.2.2.2.1
theorem dX10_init_926 : decode cX10_init 926 = .ok (.putfield 80, 3) := dq_g269.2.2.2.2.2.2.2.2.2.2.2.2.2.2.2.2.2.2.2.1
theorem dX10_init_929 : decode cX10_init 929 = .ok (.aload_n 0, 1) := dq_g269.2.2.2.2.2.2.2.2.2.2.2.2.2.2.2.2.2.2.2.2.1
theorem dX10_init_930 : decode cX10_init 930 = .ok (.sipush 3500, 3) := dq_g269.2.2.2.2.2.2.2.2.2.2.2.2.2.2.2.2.2.2.2.2.2.1
theorem dX10_init_876 : decode cX10_init 876 = .ok (.newarray .int, 2) := by decide +kernel
theorem dX10_init_884 : decode cX10_init 884 = .ok (.newarray .int, 2) := by decide +kernel
theorem dX10_init_892 : decode cX10_init 892 = .ok (.newarray .int, 2) := by decide +kernel
theorem dX10_init_900 : decode cX10_init 900 = .ok (.newarray .int, 2) := by decide +kernel
theorem dX10_init_908 : decode cX10_init 908 = .ok (.newarray .int, 2) := by decide +kernel
theorem dX10_init_916 : decode cX10_init 916 = .ok (.newarray .int, 2) := by decide +kernel
theorem dX10_init_924 : decode cX10_init 924 = .ok (.newarray .int, 2) := by decide +kernel
theorem dX10_init_933 : decode cX10_init 933 = .ok (.newarray .int, 2) := by decide +kernel
theorem dq_g270 : decode cX10_init 935 = .ok (.putfield 83, 3) ∧ decode cX10_init 938 = .ok (.aload_n 0, 1) ∧ decode cX10_init 939 = .ok (.sipush 3500, 3) ∧ decode cX10_init 944 = .ok (.putfield 86, 3) ∧ decode cX10_init 947 = .ok (.aload_n 0, 1) ∧ decode cX10_init 948 = .ok (.bipush 40, 2) ∧ decode cX10_init 952 = .ok (.putfield 89, 3) ∧ decode cX10_init 955 = .ok (.aload_n 0, 1) ∧ decode cX10_init 956 = .ok (.iconst (-1), 1) ∧ decode cX10_init 957 = .ok (.putfield 92, 3) ∧ decode cX10_init 960 = .ok (.aload_n 0, 1) ∧ decode cX10_init 961 = .ok (.bipush 14, 2) ∧ decode cX10_init 965 = .ok (.putfield 95, 3) ∧ decode cX10_init 968 = .ok (.aload_n 0, 1) ∧ decode cX10_init 969 = .ok (.sipush 520, 3) ∧ decode cX10_init 974 = .ok (.putfield 98, 3) ∧ decode cX10_init 977 = .ok (.aload_n 0, 1) ∧ decode cX10_init 978 = .ok (.iconst 5, 1) ∧ decode cX10_init 981 = .ok (.putfield 101, 3) ∧ decode cX10_init 984 = .ok (.aload_n 0, 1) ∧ decode cX10_init 985 = .ok (.iconst 5, 1) ∧ decode cX10_init 988 = .ok (.putfield 104, 3) ∧ decode cX10_init 991 = .ok (.aload_n 0, 1) ∧ decode cX10_init 992 = .ok (.sipush 144, 3) ∧ True := dqC_ok (c := cX10_init) [(935, 3, some (.putfield 83)), (938, 1, some (.aload_n 0)), (939, 3, some (.sipush 3500)), (942, 2, none), (944, 3, some (.putfield 86)), (947, 1, some (.aload_n 0)), (948, 2, some (.bipush 40)), (950, 2, none), (952, 3, some (.putfield 89)), (955, 1, some (.aload_n 0)), (956, 1, some (.iconst (-1))), (957, 3, some (.putfield 92)), (960, 1, some (.aload_n 0)), (961, 2, some (.bipush 14)), (963, 2, none), (965, 3, some (.putfield 95)), (968, 1, some (.aload_n 0)), (969, 3, some (.sipush 520)), (972, 2, none), (974, 3, some (.putfield 98)), (977, 1, some (.aload_n 0)), (978, 1, some (.iconst 5)), (979, 2, none), (981, 3, some (.putfield 101)), (984, 1, some (.aload_n 0)), (985, 1, some (.iconst 5)), (986, 2, none), (988, 3, some (.putfield 104)), (991, 1, some (.aload_n 0)), (992, 3, some (.sipush 144))] _ 935 rfl (by decide +kernel)
theorem dX10_init_935 : decode cX10_init 935 = .ok (.putfield 83, 3) := dq_g270.1
theorem dX10_init_938 : decode cX10_init 938 = .ok (.aload_n 0, 1) := dq_g270.2.1
theorem dX10_init_939 : decode cX10_init 939 = .ok (.sipush 3500, 3) := dq_g270.2.2.1
theorem dX10_init_944 : decode cX10_init 944 = .ok (.putfield 86, 3) := dq_g270.2.2.2.1
theorem dX10_init_947 : decode cX10_init 947 = .ok (.aload_n 0, 1) := dq_g270.2.2.2.2.1
theorem dX10_init_948 : decode cX10_init 948 = .ok (.bipush 40, 2) := dq_g270.2.2.2.2.2.1
theorem dX10_init_952 : decode cX10_init 952 = .ok (.putfield 89, 3) := dq_g270.2.2.2.2.2.2.1
theorem dX10_init_955 : decode cX10_init 955 = .ok (.aload_n 0, 1) := dq_g270.2.2.2.2.2.2.2.1
theorem dX10_init_956 : decode cX10_init 956 = .ok (.iconst (-1), 1) := dq_g270.2.2.2.2.2.2.2.2.1
theorem dX10_init_957 : decode cX10_init 957 = .ok (.putfield 92, 3) := dq_g270.2.2.2.2.2.2.2.2.2.1
theorem dX10_init_960 : decode cX10_init 960 = .ok (.aload_n 0, 1) := dq_g270.2.2.2.2.2.2.2.2.2.2.1
theorem dX10_init_961 : decode cX10_init 961 = .ok (.bipush 14, 2) := dq_g270.2.2.2.2.2.2.2.2.2.2.2.1
theorem dX10_init_965 : decode cX10_init 965 = .ok (.putfield 95, 3) := dq_g270.2.2.2.2.2.2.2.2.2.2.2.2.1
theorem dX10_init_968 : decode cX10_init 968 = .ok (.aload_n 0, 1) := dq_g270.2.2.2.2.2.2.2.2.2.2.2.2.2.1
theorem dX10_init_969 : decode cX10_init 969 = .ok (.sipush 520, 3) := dq_g270.2.2.2.2.2.2.2.2.2.2.2.2.2.2.1
theorem dX10_init_974 : decode cX10_init 974 = .ok (.putfield 98, 3) := dq_g270.2.2.2.2.2.2.2.2.2.2.2.2.2.2.2.1
theorem dX10_init_977 : decode cX10_init 977 = .ok (.aload_n 0, 1) := dq_g270.2.2.2.2.2.2.2.2.2.2.2.2.2.2.2.2.1
theorem dX10_init_978 : decode cX10_init 978 = .ok (.iconst 5, 1) := dq_g270.2.2.2.2.2.2.2.2.2.2.2.2.2.2.2.2.2.1
theorem dX10_init_981 : decode cX10_init 981 = .ok (.putfield 101, 3) := dq_g270.2.2.2.2.2.2.2.2.2.2.2.2.2.2.2.2.2.2.1
theorem dX10_init_984 : decode cX10_init 984 = .ok (.aload_n 0, 1) := dq_g270.2.2.2.2.2.2.2.2.2.2.2.2.2.2.2.2.2.2.2.1
theorem dX10_init_985 : decode cX10_init 985 = .ok (.iconst 5, 1) := dq_g270.2.2.2.2.2.2.2.2.2.2.2.2.2.2.2.2.2.2.2.2.1
theorem dX10_init_988 : decode cX10_init 988 = .ok (.putfield 104, 3) := dq_g270.2.2.2.2.2.2.2.2.2.2.2.2.2.2.2.2.2.2.2.2.2.1
theorem dX10_init_991 : decode cX10_init 991 = .ok (.aload_n 0, 1) := dq_g270.2.2.2.2.2.2.2.2.2.2.2.2.2.2.2.2.2.2.2.2.2.2.1
theorem dX10_init_992 : decode cX10_init 992 = .ok (.sipush 144, 3) := dq_g270.2.2.2.2.2.2.2.2.2.2.2.2.2.2.2.2.2.2.2.2.2.2.2.1
theorem dX10_init_942 : decode cX10_init 942 = .ok (.newarray .int, 2) := by decide +kernel
theorem dX10_init_950 : decode cX10_init 950 = .ok (.newarray .int, 2) := by decide +kernel
theorem dX10_init_963 : decode cX10_init 963 = .ok (.newarray .int, 2) := by decide +kernel
theorem dX10_init_972 : decode cX10_init 972 = .ok (.newarray .int, 2) := by decide +kernel
theorem dX10_init_979 : decode cX10_init 979 = .ok (.newarray .int, 2) := by decide +kernel
theorem dX10_init_986 : decode cX10_init 986 = .ok (.newarray .int, 2) := by decide +kernel
theorem dq_g271 : decode cX10_init 997 = .ok (.putfield 107, 3) ∧ decode cX10_init 1000 = .ok (.aload_n 0, 1) ∧ decode cX10_init 1001 = .ok (.sipush 144, 3) ∧ decode cX10_init 1006 = .ok (.putfield 110, 3) ∧ decode cX10_init 1009 = .ok (.aload_n 0, 1) ∧ decode cX10_init 1010 = .ok (.bipush 8, 2) ∧ decode cX10_init 1014 = .ok (.putfield 113, 3) ∧ decode cX10_init 1017 = .ok (.aload_n 0, 1) ∧ decode cX10_init 1018 = .ok (.bipush 10, 2) ∧ decode cX10_init 1022 = .ok (.putfield 116, 3) ∧ decode cX10_init 1025 = .ok (.aload_n 0, 1) ∧ decode cX10_init 1026 = .ok (.bipush 120, 2) ∧ decode cX10_init 1030 = .ok (.putfield 119, 3) ∧ decode cX10_init 1033 = .ok (.aload_n 0, 1) ∧ decode cX10_init 1034 = .ok (.bipush 120, 2) ∧ decode cX10_init 1038 = .ok (.putfield 122, 3) ∧ decode cX10_init 1041 = .ok (.aload_n 0, 1) ∧ decode cX10_init 1042 = .ok (.sipush 1920, 3) ∧ decode cX10_init 1047 = .ok (.putfield 125, 3) ∧ decode cX10_init 1050 = .ok (.aload_n 0, 1) ∧ decode cX10_init 1051 = .ok (.sipush 1920, 3) ∧ decode cX10_init 1056 = .ok (.putfield 128, 3) ∧ True := dqC_ok (c := cX10_init) [(995, 2, none), (997, 3, some (.putfield 107)), (1000, 1, some (.aload_n 0)), (1001, 3, some (.sipush 144)), (1004, 2, none), (1006, 3, some (.putfield 110)), (1009, 1, some (.aload_n 0)), (1010, 2, some (.bipush 8)), (1012, 2, none), (1014, 3, some (.putfield 113)), (1017, 1, some (.aload_n 0)), (1018, 2, some (.bipush 10)), (1020, 2, none), (1022, 3, some (.putfield 116)), (1025, 1, some (.aload_n 0)), (1026, 2, some (.bipush 120)), (1028, 2, none), (1030, 3, some (.putfield 119)), (1033, 1, some (.aload_n 0)), (1034, 2, some (.bipush 120)), (1036, 2, none), (1038, 3, some (.putfield 122)), (1041, 1, some (.aload_n 0)), (1042, 3, some (.sipush 1920)), (1045, 2, none), (1047, 3, some (.putfield 125)), (1050, 1, some (.aload_n 0)), (1051, 3, some (.sipush 1920)), (1054, 2, none), (1056, 3, some (.putfield 128))] _ 995 rfl (by decide +kernel)
theorem dX10_init_997 : decode cX10_init 997 = .ok (.putfield 107, 3) := dq_g271.1
theorem dX10_init_1000 : decode cX10_init 1000 = .ok (.aload_n 0, 1) := dq_g271.2.1
theorem dX10_init_1001 : decode cX10_init 1001 = .ok (.sipush 144, 3) := dq_g271.2.2.1
theorem dX10_init_1006 : decode cX10_init 1006 = .ok (.putfield 110, 3) := dq_g271.2.2.2.1
theorem dX10_init_1009 : decode cX10_init 1009 = .ok (.aload_n 0, 1) := dq_g271.2.2.2.2.1
theorem dX10_init_1010 : decode cX10_init 1010 = .ok (.bipush 8, 2) := dq_g271.2.2.2.2.2.1
theorem dX10_init_1014 : decode cX10_init 1014 = .ok (.putfield 113, 3) := dq_g271.2.2.2.2.2.2.1
theorem dX10_init_1017 : decode cX10_init 1017 = .ok (.aload_n 0, 1) := dq_g271.2.2.2.2.2.2.2.1
theorem dX10_init_1018 : decode cX10_init 1018 = .ok (.bipush 10, 2) := dq_g271.2.2.2.2.2.2.2.2.1
theorem dX10_init_1022 : decode cX10_init 1022 = .ok (.putfield 116, 3) := dq_g271.2.2.2.2.2.2.2.2.2.1
theorem dX10_init_1025 : decode cX10_init 1025 = .ok (.aload_n 0, 1) := dq_g271.2.2.2.2.2.2.2.2.2.2.1
theorem dX10_init_1026 : decode cX10_init 1026 = .ok (.bipush 120, 2) := dq_g271.2.2.2.2.2.2.2.2.2.2.2.1
theorem dX10_init_1030 : decode cX10_init 1030 = .ok (.putfield 119, 3) := dq_g271.2.2.2.2.2.2.2.2.2.2.2.2.1
theorem dX10_init_1033 : decode cX10_init 1033 = .ok (.aload_n 0, 1) := dq_g271.2.2.2.2.2.2.2.2.2.2.2.2.2.1
theorem dX10_init_1034 : decode cX10_init 1034 = .ok (.bipush 120, 2) := dq_g271.2.2.2.2.2.2.2.2.2.2.2.2.2.2.1
theorem dX10_init_1038 : decode cX10_init 1038 = .ok (.putfield 122, 3) := dq_g271.2.2.2.2.2.2.2.2.2.2.2.2.2.2.2.1
theorem dX10_init_1041 : decode cX10_init 1041 = .ok (.aload_n 0, 1) := dq_g271.2.2.2.2.2.2.2.2.2.2.2.2.2.2.2.2.1
theorem dX10_init_1042 : decode cX10_init 1042 = .ok (.sipush 1920, 3) := dq_g271.2.2.2.2.2.2.2.2.2.2.2.2.2.2.2.2.2.1
theorem dX10_init_1047 : decode cX10_init 1047 = .ok (.putfield 125, 3) := dq_g271.2.2.2.2.2.2.2.2.2.2.2.2.2.2.2.2.2.2.1
theorem dX10_init_1050 : decode cX10_init 1050 = .ok (.aload_n 0, 1) := dq_g271.2.2.2.2.2.2.2.2.2.2.2.2.2.2.2.2.2.2.2.1
theorem dX10_init_1051 : decode cX10_init 1051 = .ok (.sipush 1920, 3) := dq_g271.2.2.2.2.2.2.2.2.2.2.2.2.2.2.2.2.2.2.2.2.1
theorem dX10_init_1056 : decode cX10_init 1056 = .ok (.putfield 128, 3) := dq_g271.2.2.2.2.2.2.2.2.2.2.2.2.2.2.2.2.2.2.2.2.2.1
theorem dX10_init_995 : decode cX10_init 995 = .ok (.newarray .int, 2) := by decide +kernel
theorem dX10_init_1004 : decode cX10_init 1004 = .ok (.newarray .int, 2) := by decide +kernel
theorem dX10_init_1012 : decode cX10_init 1012 = .ok (.newarray .int, 2) := by decide +kernel
theorem dX10_init_1020 : decode cX10_init 1020 = .ok (.newarray .int, 2) := by decide +kernel
theorem dX10_init_1028 : decode cX10_init 1028 = .ok (.newarray .int, 2) := by decide +kernel
theorem dX10_init_1036 : decode cX10_init 1036 = .ok (.newarray .int, 2) := by decide +kernel
theorem dX10_init_1045 : decode cX10_init 1045 = .ok (.newarray .int, 2) := by decide +kernel
theorem dX10_init_1054 : decode cX10_init 1054 = .ok (.newarray .int, 2) := by decide +kernel
theorem dq_g272 : decode cX10_init 1059 = .ok (.aload_n 0, 1) ∧ decode cX10_init 1060 = .ok (.iconst 5, 1) ∧ decode cX10_init 1063 = .ok (.putfield 131, 3) ∧ decode cX10_init 1066 = .ok (.aload_n 0, 1) ∧ decode cX10_init 1067 = .ok (.sipush 5120, 3) ∧ decode cX10_init 1072 = .ok (.putfield 134, 3) ∧ decode cX10_init 1075 = .ok (.aload_n 0, 1) ∧ decode cX10_init 1076 = .ok (.sipush 1024, 3) ∧ decode cX10_init 1081 = .ok (.putfield 137, 3) ∧ decode cX10_init 1084 = .ok (.aload_n 0, 1) ∧ decode cX10_init 1085 = .ok (.bipush 20, 2) ∧ decode cX10_init 1089 = .ok (.putfield 140, 3) ∧ decode cX10_init 1092 = .ok (.aload_n 0, 1) ∧ decode cX10_init 1093 = .ok (.bipush 20, 2) ∧ decode cX10_init 1097 = .ok (.putfield 143, 3) ∧ decode cX10_init 1100 = .ok (.aload_n 0, 1) ∧ decode cX10_init 1101 = .ok (.bipush 8, 2) ∧ decode cX10_init 1105 = .ok (.putfield 146, 3) ∧ decode cX10_init 1108 = .ok (.aload_n 0, 1) ∧ decode cX10_init 1109 = .ok (.bipush 8, 2) ∧ decode cX10_init 1113 = .ok (.putfield 149, 3) ∧ decode cX10_init 1116 = .ok (.aload_n 0, 1) ∧ decode cX10_init 1117 = .ok (.bipush 8, 2) ∧ True := dqC_ok (c := cX10_init) [(1059, 1, some (.aload_n 0)), (1060, 1, some (.iconst 5)), (1061, 2, none), (1063, 3, some (.putfield 131)), (1066, 1, some (.aload_n 0)), (1067, 3, some (.sipush 5120)), (1070, 2, none), (1072, 3, some (.putfield 134)), (1075, 1, some (.aload_n 0)), (1076, 3, some (.sipush 1024)), (1079, 2, none), (1081, 3, some (.putfield 137)), (1084, 1, some (.aload_n 0)), (1085, 2, some (.bipush 20)), (1087, 2, none), (1089, 3, some (.putfield 140)), (1092, 1, some (.aload_n 0)), (1093, 2, some (.bipush 20)), (1095, 2, none), (1097, 3, some (.putfield 143)), (1100, 1, some (.aload_n 0)), (1101, 2, some (.bipush 8)), (1103, 2, none), (1105, 3, some (.putfield 146)), (1108, 1, some (.aload_n 0)), (1109, 2, some (.bipush 8)), (1111, 2, none), (1113, 3, some (.putfield 149)), (1116, 1, some (.aload_n 0)), (1117, 2, some (.bipush 8))] _ 1059 rfl (by decide +kernel)
theorem dX10_init_1059 : decode cX10_init 1059 = .ok (.aload_n 0, 1) := dq_g272.1
theorem dX10_init_1060 : decode cX10_init 1060 = .ok (.iconst 5, 1) := dq_g272.2.1
theorem dX10_init_1063 : decode cX10_init 1063 = .ok (.putfield 131, 3) := dq_g272.2.2.1
theorem dX10_init_1066 : decode cX10_init 1066 = .ok (.aload_n 0, 1) := dq_g272.2.2.2.1
theorem dX10_init_1067 : decode cX10_init 1067 = .ok (.sipush 5120, 3) := dq_g272.2.2.2.2.1
theorem dX10_init_1072 : decode cX10_init 1072 = .ok (.putfield 134, 3) := dq_g272.2.2.2.2.2.1
theorem dX10_init_1075 : decode cX10_init 1075 = .ok (.aload_n 0, 1) := dq_g272.2.2.2.2.2.2.1
theorem dX10_init_1076 : decode cX10_init 1076 = .ok (.sipush 1024, 3) := dq_g272.2.2.2.2.2.2.2.1
theorem dX10_init_1081 : decode cX10_init 1081 = .ok (.putfield 137, 3) := dq_g272.2.2.2.2.2.2.2.2.1
theorem dX10_init_1084 : decode cX10_init 1084 = .ok (.aload_n 0, 1) := dq_g272.2.2.2.2.2.2.2.2.2.1
theorem dX10_init_1085 : decode cX10_init 1085 = .ok (.bipush 20, 2) := dq_g272.2.2.2.2.2.2.2.2.2.2.1
theorem dX10_init_1089 : decode cX10_init 1089 = .ok (.putfield 140, 3) := dq_g272.2.2.2.2.2.2.2.2.2.2.2.1
theorem dX10_init_1092 : decode cX10_init 1092 = .ok (.aload_n 0, 1) := dq_g272.2.2.2.2.2.2.2.2.2.2.2.2.1
theorem dX10_init_1093 : decode cX10_init 1093 = .ok (.bipush 20, 2) := dq_g272.2.2.2.2.2.2.2.2.2.2.2.2.2.1
theorem dX10_init_1097 : decode cX10_init 1097 = .ok (.putfield 143, 3) := dq_g272.2.2.2.2.2.2.2.2.2.2.2.2.2.2.1
theorem dX10_init_1100 : decode cX10_init 1100 = .ok (.aload_n 0, 1) := dq_g272.2.2.2.2.2.2.2.2.2.2.2.2.2.2.2.1
theorem dX10_init_1101 : decode cX10_init 1101 = .ok (.bipush 8, 2) := dq_g272.2.2.2.2.2.2.2.2.2.2.2.2.2.2.2.2.1
theorem dX10_init_1105 : decode cX10_init 1105 = .ok (.putfield 146, 3) := dq_g272.2.2.2.2.2.2.2.2.2.2.2.2.2.2.2.2.2.1
theorem dX10_init_1108 : decode cX10_init 1108 = .ok (.aload_n 0, 1) := dq_g272.2.2.2.2.2.2.2.2.2.2.2.2.2.2.2.2.2.2.1
theorem dX10_init_1109 : decode cX10_init 1109 = .ok (.bipush 8, 2) := dq_g272.2.2.2.2.2.2.2.2.2.2.2.2.2.2.2.2.2.2.2.1
theorem dX10_init_1113 : decode cX10_init 1113 = .ok (.putfield 149, 3) := dq_g272.2.2.2.2.2.2.2.2.2.2.2.2.2.2.2.2.2.2.2.2.1
theorem dX10_init_1116 : decode cX10_init 1116 = .ok (.aload_n 0, 1) := dq_g272.2.2.2.2.2.2.2.2.2.2.2.2.2.2.2.2.2.2.2.2.2.1
theorem dX10_init_1117 : decode cX10_init 1117 = .ok (.bipush 8, 2) := dq_g272.2.2.2.2.2.2.2.2.2.2.2.2.2.2.2.2.2.2.2.2.2.2.1
theorem dX10_init_1061 : decode cX10_init 1061 = .ok (.newarray .int, 2) := by decide +kernel
theorem dX10_init_1070 : decode cX10_init 1070 = .ok (.newarray .int, 2) := by decide +kernel
theorem dX10_init_1079 : decode cX10_init 1079 = .ok (.newarray .int, 2) := by decide +kernel
theorem dX10_init_1087 : decode cX10_init 1087 = .ok (.newarray .int, 2) := by decide +kernel
theorem dX10_init_1095 : decode cX10_init 1095 = .ok (.newarray .int, 2) := by decide +kernel
theorem dX10_init_1103 : decode cX10_init 1103 = .ok (.newarray .int, 2) := by decide +kernel
theorem dX10_init_1111 : decode cX10_init 1111 = .ok (.newarray .int, 2) := by decide +kernel
theorem dq_g273 : decode cX10_init 1121 = .ok (.putfield 152, 3) ∧ decode cX10_init 1124 = .ok (.aload_n 0, 1) ∧ decode cX10_init 1125 = .ok (.bipush 8, 2) ∧ decode cX10_init 1129 = .ok (.putfield 155, 3) ∧ decode cX10_init 1132 = .ok (.aload_n 0, 1) ∧ decode cX10_init 1133 = .ok (.bipush 8, 2) ∧ decode cX10_init 1137 = .ok (.putfield 158, 3) ∧ decode cX10_init 1140 = .ok (.aload_n 0, 1) ∧ decode cX10_init 1141 = .ok (.bipush 8, 2) ∧ decode cX10_init 1145 = .ok (.putfield 161, 3) ∧ decode cX10_init 1148 = .ok (.aload_n 0, 1) ∧ decode cX10_init 1149 = .ok (.sipush 16400, 3) ∧ decode cX10_init 1154 = .ok (.putfield 164, 3) ∧ decode cX10_init 1157 = .ok (.return_, 1) ∧ True := dqC_ok (c := cX10_init) [(1119, 2, none), (1121, 3, some (.putfield 152)), (1124, 1, some (.aload_n 0)), (1125, 2, some (.bipush 8)), (1127, 2, none), (1129, 3, some (.putfield 155)), (1132, 1, some (.aload_n 0)), (1133, 2, some (.bipush 8)), (1135, 2, none), (1137, 3, some (.putfield 158)), (1140, 1, some (.aload_n 0)), (1141, 2, some (.bipush 8)), (1143, 2, none), (1145, 3, some (.putfield 161)), (1148, 1, some (.aload_n 0)), (1149, 3, some (.sipush 16400)), (1152, 2, none), (1154, 3, some (.putfield 164)), (1157, 1, some (.return_))] _ 1119 rfl (by decide +kernel)
theorem dX10_init_1121 : decode cX10_init 1121 = .ok (.putfield 152, 3) := dq_g273.1
theorem dX10_init_1124 : decode cX10_init 1124 = .ok (.aload_n 0, 1) := dq_g273.2.1
theorem dX10_init_1125 : decode cX10_init 1125 = .ok (.bipush 8, 2) := dq_g273.2.2.1
theorem dX10_init_1129 : decode cX10_init 1129 = .ok (.putfield 155, 3) := dq_g273.2.2.2.1
theorem dX10_init_1132 : decode cX10_init 1132 = .ok (.aload_n 0, 1) := dq_g273.2.2.2.2.1
theorem dX10_init_1133 : decode cX10_init 1133 = .ok (.bipush 8, 2) := dq_g273.2.2.2.2.2.1
theorem dX10_init_1137 : decode cX10_init 1137 = .ok (.putfield 158, 3) := dq_g273.2.2.2.2.2.2.1
theorem dX10_init_1140 : decode cX10_init 1140 = .ok (.aload_n 0, 1) := dq_g273.2.2.2.2.2.2.2.1
theorem dX10_init_1141 : decode cX10_init 1141 = .ok (.bipush 8, 2) := dq_g273.2.2.2.2.2.2.2.2.1
theorem dX10_init_1145 : decode cX10_init 1145 = .ok (.putfield 161, 3) := dq_g273.2.2.2.2.2.2.2.2.2.1
theorem dX10_init_1148 : decode cX10_init 1148 = .ok (.aload_n 0, 1) := dq_g273.2.2.2.2.2.2.2.2.2.2.1
theorem dX10_init_1149 : decode cX10_init 1149 = .ok (.sipush 16400, 3) := dq_g273.2.2.2.2.2.2.2.2.2.2.2.1
theorem dX10_init_1154 : decode cX10_init 1154 = .ok (.putfield 164, 3) := dq_g273.2.2.2.2.2.2.2.2.2.2.2.2.1
theorem dX10_init_1157 : decode cX10_init 1157 = .ok (.return_, 1) := dq_g273.2.2.2.2.2.2.2.2.2.2.2.2.2.1
theorem dX10_init_1119 : decode cX10_init 1119 = .ok (.newarray .int, 2) := by decide +kernel
theorem dX10_init_1127 : decode cX10_init 1127 = .ok (.newarray .int, 2) := by decide +kernel
theorem dX10_init_1135 : decode cX10_init 1135 = .ok (.newarray .int, 2) := by decide +kernel
theorem dX10_init_1143 : decode cX10_init 1143 = .ok (.newarray .int, 2) := by decide +kernel
theorem dX10_init_1152 : decode cX10_init 1152 = .ok (.newarray .int, 2) := by decide +kernel
theorem dq_g274 : decode cX10_isIn 0 = .ok (.iload_n 1, 1) ∧ decode cX10_isIn 1 = .ok (.iload_n 2, 1) ∧ decode cX10_isIn 2 = .ok (.if_icmp .lt 12, 3) ∧ decode cX10_isIn 5 = .ok (.iload_n 1, 1) ∧ decode cX10_isIn 6 = .ok (.iload_n 3, 1) ∧ decode cX10_isIn 7 = .ok (.if_icmp .gt 7, 3) ∧ decode cX10_isIn 10 = .ok (.iconst 1, 1) ∧ decode cX10_isIn 11 = .ok (.goto 4, 3) ∧ decode cX10_isIn 14 = .ok (.iconst 0, 1) ∧ decode cX10_isIn 15 = .ok (.ireturn, 1) ∧ True := dqC_ok (c := cX10_isIn) [(0, 1, some (.iload_n 1)), (1, 1, some (.iload_n 2)), (2, 3, some (.if_icmp .lt 12)), (5, 1, some (.iload_n 1)), (6, 1, some (.iload_n 3)), (7, 3, some (.if_icmp .gt 7)), (10, 1, some (.iconst 1)), (11, 3, some (.goto 4)), (14, 1, some (.iconst 0)), (15, 1, some (.ireturn))] _ 0 rfl (by decide +kernel)
theorem dX10_isIn_0 : decode cX10_isIn 0 = .ok (.iload_n 1, 1) := dq_g274.1
theorem dX10_isIn_1 : decode cX10_isIn 1 = .ok (.iload_n 2, 1) := dq_g274.2.1
theorem dX10_isIn_2 : decode cX10_isIn 2 = .ok (.if_icmp .lt 12, 3) := dq_g274.2.2.1
theorem dX10_isIn_5 : decode cX10_isIn 5 = .ok (.iload_n 1, 1) := dq_g274.2.2.2.1
theorem dX10_isIn_6 : decode cX10_isIn 6 = .ok (.iload_n 3, 1) := dq_g274.2.2.2.2.1
theorem dX10_isIn_7 : decode cX10_isIn 7 = .ok (.if_icmp .gt 7, 3) := dq_g274.2.2.2.2.2.1
theorem dX10_isIn_10 : decode cX10_isIn 10 = .ok (.iconst 1, 1) := dq_g274.2.2.2.2.2.2.1
theorem dX10_isIn_11 : decode cX10_isIn 11 = .ok (.goto 4, 3) := dq_g274.2.2.2.2.2.2.2.1
theorem dX10_isIn_14 : decode cX10_isIn 14 = .ok (.iconst 0, 1) := dq_g274.2.2.2.2.2.2.2.2.1
theorem dX10_isIn_15 : decode cX10_isIn 15 = .ok (.ireturn, 1) := dq_g274.2.2.2.2.2.2.2.2.2.1
theorem dq_g275 : decode cX10_size 0 = .ok (.iload_n 1, 1) ∧ decode cX10_size 1 = .ok (.ifCond .ge 8, 3) ∧ decode cX10_size 4 = .ok (.iload_n 1, 1) ∧ decode cX10_size 5 = .ok (.ineg, 1) ∧ decode cX10_size 6 = .ok (.goto 4, 3) ∧ decode cX10_size 9 = .ok (.iload_n 1, 1) ∧ decode cX10_size 10 = .ok (.ireturn, 1) ∧ True := dqC_ok (c := cX10_size) [(0, 1, some (.iload_n 1)), (1, 3, some (.ifCond .ge 8)), (4, 1, some (.iload_n 1)), (5, 1, some (.ineg)), (6, 3, some (.goto 4)), (9, 1, some (.iload_n 1)), (10, 1, some (.ireturn))] _ 0 rfl (by decide +kernel)
theorem dX10_size_0 : decode cX10_size 0 = .ok (.iload_n 1, 1) := dq_g275.1
theorem dX10_size_1 : decode cX10_size 1 = .ok (.ifCond .ge 8, 3) := dq_g275.2.1
theorem dX10_size_4 : decode cX10_size 4 = .ok (.iload_n 1, 1) := dq_g275.2.2.1
theorem dX10_size_5 : decode cX10_size 5 = .ok (.ineg, 1) := dq_g275.2.2.2.1
theorem dX10_size_6 : decode cX10_size 6 = .ok (.goto 4, 3) := dq_g275.2.2.2.2.1
theorem dX10_size_9 : decode cX10_size 9 = .ok (.iload_n 1, 1) := dq_g275.2.2.2.2.2.1
theorem dX10_size_10 : decode cX10_size 10 = .ok (.ireturn, 1) := dq_g275.2.2.2.2.2.2.1
theorem dq_g276 : decode cX10_isBar 0 = .ok (.iload_n 1, 1) ∧ decode cX10_isBar 1 = .ok (.ifCond .lt 15, 3) ∧ decode cX10_isBar 4 = .ok (.iload_n 1, 1) ∧ decode cX10_isBar 5 = .ok (.aload_n 0, 1) ∧ decode cX10_isBar 6 = .ok (.getfield 170, 3) ∧ decode cX10_isBar 9 = .ok (.if_icmp .ge 7, 3) ∧ decode cX10_isBar 12 = .ok (.iconst 1, 1) ∧ decode cX10_isBar 13 = .ok (.goto 4, 3) ∧ decode cX10_isBar 16 = .ok (.iconst 0, 1) ∧ decode cX10_isBar 17 = .ok (.ireturn, 1) ∧ True := dqC_ok (c := cX10_isBar) [(0, 1, some (.iload_n 1)), (1, 3, some (.ifCond .lt 15)), (4, 1, some (.iload_n 1)), (5, 1, some (.aload_n 0)), (6, 3, some (.getfield 170)), (9, 3, some (.if_icmp .ge 7)), (12, 1, some (.iconst 1)), (13, 3, some (.goto 4)), (16, 1, some (.iconst 0)), (17, 1, some (.ireturn))] _ 0 rfl (by decide +kernel)
theorem dX10_isBar_0 : decode cX10_isBar 0 = .ok (.iload_n 1, 1) := dq_g276.1
theorem dX10_isBar_1 : decode cX10_isBar 1 = .ok (.ifCond .lt 15, 3) := dq_g276.2.1
theorem dX10_isBar_4 : decode cX10_isBar 4 = .ok (.iload_n 1, 1) := dq_g276.2.2.1
theorem dX10_isBar_5 : decode cX10_isBar 5 = .ok (.aload_n 0, 1) := dq_g276.2.2.2.1
theorem dX10_isBar_6 : decode cX10_isBar 6 = .ok (.getfield 170, 3) := dq_g276.2.2.2.2.1
theorem dX10_isBar_9 : decode cX10_isBar 9 = .ok (.if_icmp .ge 7, 3) := dq_g276.2.2.2.2.2.1
theorem dX10_isBar_12 : decode cX10_isBar 12 = .ok (.iconst 1, 1) := dq_g276.2.2.2.2.2.2.1
theorem dX10_isBar_13 : decode cX10_isBar 13 = .ok (.goto 4, 3) := dq_g276.2.2.2.2.2.2.2.1
theorem dX10_isBar_16 : decode cX10_isBar 16 = .ok (.iconst 0, 1) := dq_g276.2.2.2.2.2.2.2.2.1
theorem dX10_isBar_17 : decode cX10_isBar 17 = .ok (.ireturn, 1) := dq_g276.2.2.2.2.2.2.2.2.2.1
theorem dq_g277 : decode cX10_isSlice 0 = .ok (.aload_n 0, 1) ∧ decode cX10_isSlice 1 = .ok (.iload_n 1, 1) ∧ decode cX10_isSlice 2 = .ok (.invokevirtual 173, 3) ∧ decode cX10_isSlice 5 = .ok (.ifCond .eq 21, 3) ∧ decode cX10_isSlice 8 = .ok (.iload_n 2, 1) ∧ decode cX10_isSlice 9 = .ok (.ifCond .lt 17, 3) ∧ decode cX10_isSlice 12 = .ok (.iload_n 2, 1) ∧ decode cX10_isSlice 13 = .ok (.aload_n 0, 1) ∧ decode cX10_isSlice 14 = .ok (.getfield 13, 3) ∧ decode cX10_isSlice 17 = .ok (.iload_n 1, 1) ∧ decode cX10_isSlice 18 = .ok (.iaload, 1) ∧ decode cX10_isSlice 19 = .ok (.if_icmp .ge 7, 3) ∧ decode cX10_isSlice 22 = .ok (.iconst 1, 1) ∧ decode cX10_isSlice 23 = .ok (.goto 4, 3) ∧ decode cX10_isSlice 26 = .ok (.iconst 0, 1) ∧ decode cX10_isSlice 27 = .ok (.ireturn, 1) ∧ True := dqC_ok (c := cX10_isSlice) [(0, 1, some (.aload_n 0)), (1, 1, some (.iload_n 1)), (2, 3, some (.invokevirtual 173)), (5, 3, some (.ifCond .eq 21)), (8, 1, some (.iload_n 2)), (9, 3, some (.ifCond .lt 17)), (12, 1, some (.iload_n 2)), (13, 1, some (.aload_n 0)), (14, 3, some (.getfield 13)), (17, 1, some (.iload_n 1)), (18, 1, some (.iaload)), (19, 3, some (.if_icmp .ge 7)), (22, 1, some (.iconst 1)), (23, 3, some (.goto 4)), (26, 1, some (.iconst 0)), (27, 1, some (.ireturn))] _ 0 rfl (by decide +kernel)
theorem dX10_isSlice_0 : decode cX10_isSlice 0 = .ok (.aload_n 0, 1) := dq_g277.1
theorem dX10_isSlice_1 : decode cX10_isSlice 1 = .ok (.iload_n 1, 1) := dq_g277.2.1
theorem dX10_isSlice_2 : decode cX10_isSlice 2 = .ok (.invokevirtual 173, 3) := dq_g277.2.2.1
theorem dX10_isSlice_5 : decode cX10_isSlice 5 = .ok (.ifCond .eq 21, 3) := dq_g277.2.2.2.1
theorem dX10_isSlice_8 : decode cX10_isSlice 8 = .ok (.iload_n 2, 1) := dq_g277.2.2.2.2.1
theorem dX10_isSlice_9 : decode cX10_isSlice 9 = .ok (.ifCond .lt 17, 3) := dq_g277.2.2.2.2.2.1
theorem dX10_isSlice_12 : decode cX10_isSlice 12 = .ok (.iload_n 2, 1) := dq_g277.2.2.2.2.2.2.1
theorem dX10_isSlice_13 : decode cX10_isSlice 13 = .ok (.aload_n 0, 1) := dq_g277.2.2.2.2.2.2.2.1
theorem dX10_isSlice_14 : decode cX10_isSlice 14 = .ok (.getfield 13, 3) := dq_g277.2.2.2.2.2.2.2.2.1
theorem dX10_isSlice_17 : decode cX10_isSlice 17 = .ok (.iload_n 1, 1) := dq_g277.2.2.2.2.2.2.2.2.2.1
theorem dX10_isSlice_18 : decode cX10_isSlice 18 = .ok (.iaload, 1) := dq_g277.2.2.2.2.2.2.2.2.2.2.1
theorem dX10_isSlice_19 : decode cX10_isSlice 19 = .ok (.if_icmp .ge 7, 3) := dq_g277.2.2.2.2.2.2.2.2.2.2.2.1
theorem dX10_isSlice_22 : decode cX10_isSlice 22 = .ok (.iconst 1, 1) := dq_g277.2.2.2.2.2.2.2.2.2.2.2.2.1
theorem dX10_isSlice_23 : decode cX10_isSlice 23 = .ok (.goto 4, 3) := dq_g277.2.2.2.2.2.2.2.2.2.2.2.2.2.1
theorem dX10_isSlice_26 : decode cX10_isSlice 26 = .ok (.iconst 0, 1) := dq_g277.2.2.2.2.2.2.2.2.2.2.2.2.2.2.1
theorem dX10_isSlice_27 : decode cX10_isSlice 27 = .ok (.ireturn, 1) := dq_g277.2.2.2.2.2.2.2.2.2.2.2.2.2.2.2.1
theorem dq_g278 : decode cX10_isTone 0 = .ok (.aload_n 0, 1) ∧ decode cX10_isTone 1 = .ok (.iload_n 1, 1) ∧ decode cX10_isTone 2 = .ok (.iconst 0, 1) ∧ decode cX10_isTone 3 = .ok (.iconst 2, 1) ∧ decode cX10_isTone 4 = .ok (.invokevirtual 177, 3) ∧ decode cX10_isTone 7 = .ok (.ireturn, 1) ∧ True := dqC_ok (c := cX10_isTone) [(0, 1, some (.aload_n 0)), (1, 1, some (.iload_n 1)), (2, 1, some (.iconst 0)), (3, 1, some (.iconst 2)), (4, 3, some (.invokevirtual 177)), (7, 1, some (.ireturn))] _ 0 rfl (by decide +kernel)
theorem dX10_isTone_0 : decode cX10_isTone 0 = .ok (.aload_n 0, 1) := dq_g278.1
theorem dX10_isTone_1 : decode cX10_isTone 1 = .ok (.iload_n 1, 1) := dq_g278.2.1
theorem dX10_isTone_2 : decode cX10_isTone 2 = .ok (.iconst 0, 1) := dq_g278.2.2.1
theorem dX10_isTone_3 : decode cX10_isTone 3 = .ok (.iconst 2, 1) := dq_g278.2.2.2.1
theorem dX10_isTone_4 : decode cX10_isTone 4 = .ok (.invokevirtual 177, 3) := dq_g278.2.2.2.2.1
theorem dX10_isTone_7 : decode cX10_isTone 7 = .ok (.ireturn, 1) := dq_g278.2.2.2.2.2.1
theorem dq_g279 : decode cX10_bar 0 = .ok (.aload_n 0, 1) ∧ decode cX10_bar 1 = .ok (.iconst 0, 1) ∧ decode cX10_bar 2 = .ok (.putfield 167, 3) ∧ decode cX10_bar 5 = .ok (.aload_n 0, 1) ∧ decode cX10_bar 6 = .ok (.iload_n 1, 1) ∧ decode cX10_bar 7 = .ok (.iconst 3, 1) ∧ decode cX10_bar 8 = .ok (.bipush 16, 2) ∧ decode cX10_bar 10 = .ok (.invokevirtual 177, 3) ∧ decode cX10_bar 13 = .ok (.ifCond .eq 12, 3) ∧ decode cX10_bar 16 = .ok (.aload_n 0, 1) ∧ decode cX10_bar 17 = .ok (.getfield 170, 3) ∧ decode cX10_bar 20 = .ok (.bipush 10, 2) ∧ decode cX10_bar 22 = .ok (.if_icmp .ne 5, 3) ∧ decode cX10_bar 25 = .ok (.iconst (-1), 1) ∧ decode cX10_bar 26 = .ok (.ireturn, 1) ∧ decode cX10_bar 27 = .ok (.aload_n 0, 1) ∧ decode cX10_bar 28 = .ok (.getfield 13, 3) ∧ decode cX10_bar 31 = .ok (.aload_n 0, 1) ∧ decode cX10_bar 32 = .ok (.getfield 170, 3) ∧ decode cX10_bar 35 = .ok (.iload_n 1, 1) ∧ decode cX10_bar 36 = .ok (.iastore, 1) ∧ decode cX10_bar 37 = .ok (.bipush 16, 2) ∧ decode cX10_bar 39 = .ok (.aload_n 0, 1) ∧ decode cX10_bar 40 = .ok (.getfield 170, 3) ∧ decode cX10_bar 43 = .ok (.imul, 1) ∧ decode cX10_bar 44 = .ok (.istore_n 2, 1) ∧ decode cX10_bar 45 = .ok (.iload_n 2, 1) ∧ decode cX10_bar 46 = .ok (.bipush 16, 2) ∧ decode cX10_bar 48 = .ok (.aload_n 0, 1) ∧ decode cX10_bar 49 = .ok (.getfield 170, 3) ∧ True := dqC_ok (c := cX10_bar) [(0, 1, some (.aload_n 0)), (1, 1, some (.iconst 0)), (2, 3, some (.putfield 167)), (5, 1, some (.aload_n 0)), (6, 1, some (.iload_n 1)), (7, 1, some (.iconst 3)), (8, 2, some (.bipush 16)), (10, 3, some (.invokevirtual 177)), (13, 3, some (.ifCond .eq 12)), (16, 1, some (.aload_n 0)), (17, 3, some (.getfield 170)), (20, 2, some (.bipush 10)), (22, 3, some (.if_icmp .ne 5)), (25, 1, some (.iconst (-1))), (26, 1, some (.ireturn)), (27, 1, some (.aload_n 0)), (28, 3, some (.getfield 13)), (31, 1, some (.aload_n 0)), (32, 3, some (.getfield 170)), (35, 1, some (.iload_n 1)), (36, 1, some (.iastore)), (37, 2, some (.bipush 16)), (39, 1, some (.aload_n 0)), (40, 3, some (.getfield 170)), (43, 1, some (.imul)), (44, 1, some (.istore_n 2)), (45, 1, some (.iload_n 2)), (46, 2, some (.bipush 16)), (48, 1, some (.aload_n 0)), (49, 3, some (.getfield 170))] _ 0 rfl (by decide +kernel)
theorem dX10_bar_0 : decode cX10_bar 0 = .ok (.aload_n 0, 1) := dq_g279.1
theorem dX10_bar_1 : decode cX10_bar 1 = .ok (.iconst 0, 1) := dq_g279.2.1
theorem dX10_bar_2 : decode cX10_bar 2 = .ok (.putfield 167, 3) := dq_g279.2.2.1
theorem dX10_bar_5 : decode cX10_bar 5 = .ok (.aload_n 0, 1) := dq_g279.2.2.2.1
theorem dX10_bar_6 : decode cX10_bar 6 = .ok (.iload_n 1, 1) := dq_g279.2.2.2.2.1
theorem dX10_bar_7 : decode cX10_bar 7 = .ok (.iconst 3, 1) := dq_g279.2.2.2.2.2.1
theorem dX10_bar_8 : decode cX10_bar 8 = .ok (.bipush 16, 2) := dq_g279.2.2.2.2.2.2.1
theorem dX10_bar_10 : decode cX10_bar 10 = .ok (.invokevirtual 177, 3) := dq_g279.2.2.2.2.2.2.2.1
theorem dX10_bar_13 : decode cX10_bar 13 = .ok (.ifCond .eq 12, 3) := dq_g279.2.2.2.2.2.2.2.2.1
theorem dX10_bar_16 : decode cX10_bar 16 = .ok (.aload_n 0, 1) := dq_g279.2.2.2.2.2.2.2.2.2.1
theorem dX10_bar_17 : decode cX10_bar 17 = .ok (.getfield 170, 3) := dq_g279.2.2.2.2.2.2.2.2.2.2.1
theorem dX10_bar_20 : decode cX10_bar 20 = .ok (.bipush 10, 2) := dq_g279.2.2.2.2.2.2.2.2.2.2.2.1
theorem dX10_bar_22 : decode cX10_bar 22 = .ok (.if_icmp .ne 5, 3) := dq_g279.2.2.2.2.2.2.2.2.2.2.2.2.1
theorem dX10_bar_25 : decode cX10_bar 25 = .ok (.iconst (-1), 1) := dq_g279.2.2.2.2.2.2.2.2.2.2.2.2.2.1
theorem dX10_bar_26 : decode cX10_bar 26 = .ok (.ireturn, 1) := dq_g279.2.2.2.2.2.2.2.2.2.2.2.2.2.2.1
theorem dX10_bar_27 : decode cX10_bar 27 = .ok (.aload_n 0, 1) := dq_g279.2.2.2.2.2.2.2.2.2.2.2.2.2.2.2.1
theorem dX10_bar_28 : decode cX10_bar 28 = .ok (.getfield 13, 3) := dq_g279.2.2.2.2.2.2.2.2.2.2.2.2.2.2.2.2.1
theorem dX10_bar_31 : decode cX10_bar 31 = .ok (.aload_n 0, 1) := dq_g279.2.2.2.2.2.2.2.2.2.2.2.2.2.2.2.2.2.1
theorem dX10_bar_32 : decode cX10_bar 32 = .ok (.getfield 170, 3) := dq_g279.2.2.2.2.2.2.2.2.2.2.2.2.2.2.2.2.2.2.1
theorem dX10_bar_35 : decode cX10_bar 35 = .ok (.iload_n 1, 1) := dq_g279.2.2.2.2.2.2.2.2.2.2.2.2.2.2.2.2.2.2.2.1
theorem dX10_bar_36 : decode cX10_bar 36 = .ok (.iastore, 1) := dq_g279.2.2.2.2.2.2.2.2.2.2.2.2.2.2.2.2.2.2.2.2.1
theorem dX10_bar_37 : decode cX10_bar 37 = .ok (.bipush 16, 2) := dq_g279.2.2.2.2.2.2.2.2.2.2.2.2.2.2.2.2.2.2.2.2.2.1
theorem dX10_bar_39 : decode cX10_bar 39 = .ok (.aload_n 0, 1) := dq_g279.2.2.2.2.2.2.2.2.2.2.2.2.2.2.2.2.2.2.2.2.2.2.1
theorem dX10_bar_40 : decode cX10_bar 40 = .ok (.getfield 170, 3) := dq_g279.2.2.2.2.2.2.2.2.2.2.2.2.2.2.2.2.2.2.2.2.2.2.2.1
theorem dX10_bar_43 : decode cX10_bar 43 = .ok (.imul, 1) := dq_g279.2.2.2.2.2.2.2.2.2.2.2.2.2.2.2.2.2.2.2.2.2.2.2.2.1
theorem dX10_bar_44 : decode cX10_bar 44 = .ok (.istore_n 2, 1) := dq_g279.2.2.2.2.2.2.2.2.2.2.2.2.2.2.2.2.2.2.2.2.2.2.2.2.2.1
theorem dX10_bar_45 : decode cX10_bar 45 = .ok (.iload_n 2, 1) := dq_g279.2.2.2.2.2.2.2.2.2.2.2.2.2.2.2.2.2.2.2.2.2.2.2.2.2.2.1
theorem dX10_bar_46 : decode cX10_bar 46 = .ok (.bipush 16, 2) := dq_g279.2.2.2.2.2.2.2.2.2.2.2.2.2.2.2.2.2.2.2.2.2.2.2.2.2.2.2.1
theorem dX10_bar_48 : decode cX10_bar 48 = .ok (.aload_n 0, 1) := dq_g279.2.2.2.2.2.2.2.2.2.2.2.2.2.2.2.2.2.2.2.2.2.2.2.2.2.2.2.2.1
theorem dX10_bar_49 : decode cX10_bar 49 = .ok (.getfield 170, 3) := dq_g279.2.2.2.2.2.2.2.2.2.2.2.2.2.2.2.2.2.2.2.2.2.2.2.2.2.2.2.2.2.1
theorem dq_g280 : decode cX10_bar 52 = .ok (.imul, 1) ∧ decode cX10_bar 53 = .ok (.bipush 16, 2) ∧ decode cX10_bar 55 = .ok (.iadd, 1) ∧ decode cX10_bar 56 = .ok (.if_icmp .ge 38, 3) ∧ decode cX10_bar 59 = .ok (.aload_n 0, 1) ∧ decode cX10_bar 60 = .ok (.getfield 17, 3) ∧ decode cX10_bar 63 = .ok (.iload_n 2, 1) ∧ decode cX10_bar 64 = .ok (.bipush 20, 2) ∧ decode cX10_bar 66 = .ok (.iastore, 1) ∧ decode cX10_bar 67 = .ok (.aload_n 0, 1) ∧ decode cX10_bar 68 = .ok (.getfield 20, 3) ∧ decode cX10_bar 71 = .ok (.iload_n 2, 1) ∧ decode cX10_bar 72 = .ok (.iconst 5, 1) ∧ decode cX10_bar 73 = .ok (.iastore, 1) ∧ decode cX10_bar 74 = .ok (.aload_n 0, 1) ∧ decode cX10_bar 75 = .ok (.getfield 23, 3) ∧ decode cX10_bar 78 = .ok (.iload_n 2, 1) ∧ decode cX10_bar 79 = .ok (.iconst 5, 1) ∧ decode cX10_bar 80 = .ok (.iastore, 1) ∧ decode cX10_bar 81 = .ok (.aload_n 0, 1) ∧ decode cX10_bar 82 = .ok (.getfield 26, 3) ∧ decode cX10_bar 85 = .ok (.iload_n 2, 1) ∧ decode cX10_bar 86 = .ok (.iconst 0, 1) ∧ decode cX10_bar 87 = .ok (.iastore, 1) ∧ decode cX10_bar 88 = .ok (.iinc 2 1, 3) ∧ decode cX10_bar 91 = .ok (.goto (-46), 3) ∧ decode cX10_bar 94 = .ok (.aload_n 0, 1) ∧ decode cX10_bar 95 = .ok (.getfield 50, 3) ∧ decode cX10_bar 98 = .ok (.iconst 2, 1) ∧ decode cX10_bar 99 = .ok (.aload_n 0, 1) ∧ True := dqC_ok (c := cX10_bar) [(52, 1, some (.imul)), (53, 2, some (.bipush 16)), (55, 1, some (.iadd)), (56, 3, some (.if_icmp .ge 38)), (59, 1, some (.aload_n 0)), (60, 3, some (.getfield 17)), (63, 1, some (.iload_n 2)), (64, 2, some (.bipush 20)), (66, 1, some (.iastore)), (67, 1, some (.aload_n 0)), (68, 3, some (.getfield 20)), (71, 1, some (.iload_n 2)), (72, 1, some (.iconst 5)), (73, 1, some (.iastore)), (74, 1, some (.aload_n 0)), (75, 3, some (.getfield 23)), (78, 1, some (.iload_n 2)), (79, 1, some (.iconst 5)), (80, 1, some (.iastore)), (81, 1, some (.aload_n 0)), (82, 3, some (.getfield 26)), (85, 1, some (.iload_n 2)), (86, 1, some (.iconst 0)), (87, 1, some (.iastore)), (88, 3, some (.iinc 2 1)), (91, 3, some (.goto (-46))), (94, 1, some (.aload_n 0)), (95, 3, some (.getfield 50)), (98, 1, some (.iconst 2)), (99, 1, some (.aload_n 0))] _ 52 rfl (by decide +kernel)
theorem dX10_bar_52 : decode cX10_bar 52 = .ok (.imul, 1) := dq_g280.1
theorem dX10_bar_53 : decode cX10_bar 53 = .ok (.bipush 16, 2) := dq_g280.2.1
theorem dX10_bar_55 : decode cX10_bar 55 = .ok (.iadd, 1) := dq_g280.2.2.1
theorem dX10_bar_56 : decode cX10_bar 56 = .ok (.if_icmp .ge 38, 3) := dq_g280.2.2.2.1
theorem dX10_bar_59 : decode cX10_bar 59 = .ok (.aload_n 0, 1) := dq_g280.2.2.2.2.1
theorem dX10_bar_60 : decode cX10_bar 60 = .ok (.getfield 17, 3) := dq_g280.2.2.2.2.2.1
theorem dX10_bar_63 : decode cX10_bar 63 = .ok (.iload_n 2, 1) := dq_g280.2.2.2.2.2.2.1
theorem dX10_bar_64 : decode cX10_bar 64 = .ok (.bipush 20, 2) := dq_g280.2.2.2.2.2.2.2.1
theorem dX10_bar_66 : decode cX10_bar 66 = .ok (.iastore, 1) := dq_g280.2.2.2.2.2.2.2.2.1
theorem dX10_bar_67 : decode cX10_bar 67 = .ok (.aload_n 0, 1) := dq_g280.2.2.2.2.2.2.2.2.2.1
theorem dX10_bar_68 : decode cX10_bar 68 = .ok (.getfield 20, 3) := dq_g280.2.2.2.2.2.2.2.2.2.2.1
theorem dX10_bar_71 : decode cX10_bar 71 = .ok (.iload_n 2, 1) := dq_g280.2.2.2.2.2.2.2.2.2.2.2.1
theorem dX10_bar_72 : decode cX10_bar 72 = .ok (.iconst 5, 1) := dq_g280.2.2.2.2.2.2.2.2.2.2.2.2.1
theorem dX10_bar_73 : decode cX10_bar 73 = .ok (.iastore, 1) := dq_g280.2.2.2.2.2.2.2.2.2.2.2.2.2.1
theorem dX10_bar_74 : decode cX10_bar 74 = .ok (.aload_n 0, 1) := dq_g280.2.2.2.2.2.2.2.2.2.2.2.2.2.2.1
theorem dX10_bar_75 : decode cX10_bar 75 = .ok (.getfield 23, 3) := dq_g280.2.2.2.2.2.2.2.2.2.2.2.2.2.2.2.1
theorem dX10_bar_78 : decode cX10_bar 78 = .ok (.iload_n 2, 1) := dq_g280.2.2.2.2.2.2.2.2.2.2.2.2.2.2.2.2.1
theorem dX10_bar_79 : decode cX10_bar 79 = .ok (.iconst 5, 1) := dq_g280.2.2.2.2.2.2.2.2.2.2.2.2.2.2.2.2.2.1
theorem dX10_bar_80 : decode cX10_bar 80 = .ok (.iastore, 1) := dq_g280.2.2.2.2.2.2.2.2.2.2.2.2.2.2.2.2.2.2.1
theorem dX10_bar_81 : decode cX10_bar 81 = .ok (.aload_n 0, 1) := dq_g280.2.2.2.2.2.2.2.2.2.2.2.2.2.2.2.2.2.2.2.1
theorem dX10_bar_82 : decode cX10_bar 82 = .ok (.getfield 26, 3) := dq_g280.2.2.2.2.2.2.2.2.2.2.2.2.2.2.2.2.2.2.2.2.1
theorem dX10_bar_85 : decode cX10_bar 85 = .ok (.iload_n 2, 1) := dq_g280.2.2.2.2.2.2.2.2.2.2.2.2.2.2.2.2.2.2.2.2.2.1
theorem dX10_bar_86 : decode cX10_bar 86 = .ok (.iconst 0, 1) := dq_g280.2.2.2.2.2.2.2.2.2.2.2.2.2.2.2.2.2.2.2.2.2.2.1
theorem dX10_bar_87 : decode cX10_bar 87 = .ok (.iastore, 1) := dq_g280.2.2.2.2.2.2.2.2.2.2.2.2.2.2.2.2.2.2.2.2.2.2.2.1
theorem dX10_bar_88 : decode cX10_bar 88 = .ok (.iinc 2 1, 3) := dq_g280.2.2.2.2.2.2.2.2.2.2.2.2.2.2.2.2.2.2.2.2.2.2.2.2.1
theorem dX10_bar_91 : decode cX10_bar 91 = .ok (.goto (-46), 3) := dq_g280.2.2.2.2.2.2.2.2.2.2.2.2.2.2.2.2.2.2.2.2.2.2.2.2.2.1
theorem dX10_bar_94 : decode cX10_bar 94 = .ok (.aload_n 0, 1) := dq_g280.2.2.2.2.2.2.2.2.2.2.2.2.2.2.2.2.2.2.2.2.2.2.2.2.2.2.1
theorem dX10_bar_95 : decode cX10_bar 95 = .ok (.getfield 50, 3) := dq_g280.2.2.2.2.2.2.2.2.2.2.2.2.2.2.2.2.2.2.2.2.2.2.2.2.2.2.2.1
theorem dX10_bar_98 : decode cX10_bar 98 = .ok (.iconst 2, 1) := dq_g280.2.2.2.2.2.2.2.2.2.2.2.2.2.2.2.2.2.2.2.2.2.2.2.2.2.2.2.2.1
theorem dX10_bar_99 : decode cX10_bar 99 = .ok (.aload_n 0, 1) := dq_g280.2.2.2.2.2.2.2.2.2.2.2.2.2.2.2.2.2.2.2.2.2.2.2.2.2.2.2.2.2.1
theorem dq_g281 : decode cX10_bar 100 = .ok (.getfield 170, 3) ∧ decode cX10_bar 103 = .ok (.imul, 1) ∧ decode cX10_bar 104 = .ok (.sipush 500, 3) ∧ decode cX10_bar 107 = .ok (.iastore, 1) ∧ decode cX10_bar 108 = .ok (.aload_n 0, 1) ∧ decode cX10_bar 109 = .ok (.getfield 50, 3) ∧ decode cX10_bar 112 = .ok (.iconst 2, 1) ∧ decode cX10_bar 113 = .ok (.aload_n 0, 1) ∧ decode cX10_bar 114 = .ok (.getfield 170, 3) ∧ decode cX10_bar 117 = .ok (.imul, 1) ∧ decode cX10_bar 118 = .ok (.iconst 1, 1) ∧ decode cX10_bar 119 = .ok (.iadd, 1) ∧ decode cX10_bar 120 = .ok (.sipush 500, 3) ∧ decode cX10_bar 123 = .ok (.iastore, 1) ∧ decode cX10_bar 124 = .ok (.aload_n 0, 1) ∧ decode cX10_bar 125 = .ok (.aload_n 0, 1) ∧ decode cX10_bar 126 = .ok (.getfield 170, 3) ∧ decode cX10_bar 129 = .ok (.iconst 1, 1) ∧ decode cX10_bar 130 = .ok (.iadd, 1) ∧ decode cX10_bar 131 = .ok (.putfield 170, 3) ∧ decode cX10_bar 134 = .ok (.aload_n 0, 1) ∧ decode cX10_bar 135 = .ok (.getfield 170, 3) ∧ decode cX10_bar 138 = .ok (.iconst 1, 1) ∧ decode cX10_bar 139 = .ok (.isub, 1) ∧ decode cX10_bar 140 = .ok (.ireturn, 1) ∧ True := dqC_ok (c := cX10_bar) [(100, 3, some (.getfield 170)), (103, 1, some (.imul)), (104, 3, some (.sipush 500)), (107, 1, some (.iastore)), (108, 1, some (.aload_n 0)), (109, 3, some (.getfield 50)), (112, 1, some (.iconst 2)), (113, 1, some (.aload_n 0)), (114, 3, some (.getfield 170)), (117, 1, some (.imul)), (118, 1, some (.iconst 1)), (119, 1, some (.iadd)), (120, 3, some (.sipush 500)), (123, 1, some (.iastore)), (124, 1, some (.aload_n 0)), (125, 1, some (.aload_n 0)), (126, 3, some (.getfield 170)), (129, 1, some (.iconst 1)), (130, 1, some (.iadd)), (131, 3, some (.putfield 170)), (134, 1, some (.aload_n 0)), (135, 3, some (.getfield 170)), (138, 1, some (.iconst 1)), (139, 1, some (.isub)), (140, 1, some (.ireturn))] _ 100 rfl (by decide +kernel)
theorem dX10_bar_100 : decode cX10_bar 100 = .ok (.getfield 170, 3) := dq_g281.1
theorem dX10_bar_103 : decode cX10_bar 103 = .ok (.imul, 1) := dq_g281.2.1
theorem dX10_bar_104 : decode cX10_bar 104 = .ok (.sipush 500, 3) := dq_g281.2.2.1
theorem dX10_bar_107 : decode cX10_bar 107 = .ok (.iastore, 1) := dq_g281.2.2.2.1
theorem dX10_bar_108 : decode cX10_bar 108 = .ok (.aload_n 0, 1) := dq_g281.2.2.2.2.1
theorem dX10_bar_109 : decode cX10_bar 109 = .ok (.getfield 50, 3) := dq_g281.2.2.2.2.2.1
theorem dX10_bar_112 : decode cX10_bar 112 = .ok (.iconst 2, 1) := dq_g281.2.2.2.2.2.2.1
theorem dX10_bar_113 : decode cX10_bar 113 = .ok (.aload_n 0, 1) := dq_g281.2.2.2.2.2.2.2.1
theorem dX10_bar_114 : decode cX10_bar 114 = .ok (.getfield 170, 3) := dq_g281.2.2.2.2.2.2.2.2.1
theorem dX10_bar_117 : decode cX10_bar 117 = .ok (.imul, 1) := dq_g281.2.2.2.2.2.2.2.2.2.1
theorem dX10_bar_118 : decode cX10_bar 118 = .ok (.iconst 1, 1) := dq_g281.2.2.2.2.2.2.2.2.2.2.1
theorem dX10_bar_119 : decode cX10_bar 119 = .ok (.iadd, 1) := dq_g281.2.2.2.2.2.2.2.2.2.2.2.1
theorem dX10_bar_120 : decode cX10_bar 120 = .ok (.sipush 500, 3) := dq_g281.2.2.2.2.2.2.2.2.2.2.2.2.1
theorem dX10_bar_123 : decode cX10_bar 123 = .ok (.iastore, 1) := dq_g281.2.2.2.2.2.2.2.2.2.2.2.2.2.1
theorem dX10_bar_124 : decode cX10_bar 124 = .ok (.aload_n 0, 1) := dq_g281.2.2.2.2.2.2.2.2.2.2.2.2.2.2.1
theorem dX10_bar_125 : decode cX10_bar 125 = .ok (.aload_n 0, 1) := dq_g281.2.2.2.2.2.2.2.2.2.2.2.2.2.2.2.1
theorem dX10_bar_126 : decode cX10_bar 126 = .ok (.getfield 170, 3) := dq_g281.2.2.2.2.2.2.2.2.2.2.2.2.2.2.2.2.1
theorem dX10_bar_129 : decode cX10_bar 129 = .ok (.iconst 1, 1) := dq_g281.2.2.2.2.2.2.2.2.2.2.2.2.2.2.2.2.2.1
theorem dX10_bar_130 : decode cX10_bar 130 = .ok (.iadd, 1) := dq_g281.2.2.2.2.2.2.2.2.2.2.2.2.2.2.2.2.2.2.1
theorem dX10_bar_131 : decode cX10_bar 131 = .ok (.putfield 170, 3) := dq_g281.2.2.2.2.2.2.2.2.2.2.2.2.2.2.2.2.2.2.2.1
theorem dX10_bar_134 : decode cX10_bar 134 = .ok (.aload_n 0, 1) := dq_g281.2.2.2.2.2.2.2.2.2.2.2.2.2.2.2.2.2.2.2.2.1
theorem dX10_bar_135 : decode cX10_bar 135 = .ok (.getfield 170, 3) := dq_g281.2.2.2.2.2.2.2.2.2.2.2.2.2.2.2.2.2.2.2.2.2.1
theorem dX10_bar_138 : decode cX10_bar 138 = .ok (.iconst 1, 1) := dq_g281.2.2.2.2.2.2.2.2.2.2.2.2.2.2.2.2.2.2.2.2.2.2.1
theorem dX10_bar_139 : decode cX10_bar 139 = .ok (.isub, 1) := dq_g281.2.2.2.2.2.2.2.2.2.2.2.2.2.2.2.2.2.2.2.2.2.2.2.1
theorem dX10_bar_140 : decode cX10_bar 140 = .ok (.ireturn, 1) := dq_g281.2.2.2.2.2.2.2.2.2.2.2.2.2.2.2.2.2.2.2.2.2.2.2.2.1
theorem dq_g282 : decode cX10_slice 0 = .ok (.aload_n 0, 1) ∧ decode cX10_slice 1 = .ok (.iconst 0, 1) ∧ decode cX10_slice 2 = .ok (.putfield 167, 3) ∧ decode cX10_slice 5 = .ok (.aload_n 0, 1) ∧ decode cX10_slice 6 = .ok (.iload_n 1, 1) ∧ decode cX10_slice 7 = .ok (.iload_n 2, 1) ∧ decode cX10_slice 8 = .ok (.invokevirtual 181, 3) ∧ decode cX10_slice 11 = .ok (.ifCond .eq 47, 3) ∧ decode cX10_slice 14 = .ok (.aload_n 0, 1) ∧ decode cX10_slice 15 = .ok (.getfield 32, 3) ∧ decode cX10_slice 18 = .ok (.iload_n 1, 1) ∧ decode cX10_slice 19 = .ok (.iaload, 1) ∧ decode cX10_slice 20 = .ok (.ifCond .gt 38, 3) ∧ decode cX10_slice 23 = .ok (.aload_n 0, 1) ∧ decode cX10_slice 24 = .ok (.iload_n 3, 1) ∧ decode cX10_slice 25 = .ok (.iconst 1, 1) ∧ decode cX10_slice 26 = .ok (.bipush 99, 2) ∧ decode cX10_slice 28 = .ok (.invokevirtual 177, 3) ∧ decode cX10_slice 31 = .ok (.ifCond .eq 27, 3) ∧ decode cX10_slice 34 = .ok (.aload_n 0, 1) ∧ decode cX10_slice 35 = .ok (.iload 4, 2) ∧ decode cX10_slice 37 = .ok (.iconst 1, 1) ∧ decode cX10_slice 38 = .ok (.bipush 9, 2) ∧ decode cX10_slice 40 = .ok (.invokevirtual 177, 3) ∧ decode cX10_slice 43 = .ok (.ifCond .eq 15, 3) ∧ decode cX10_slice 46 = .ok (.aload_n 0, 1) ∧ decode cX10_slice 47 = .ok (.iload 5, 2) ∧ decode cX10_slice 49 = .ok (.iconst 1, 1) ∧ decode cX10_slice 50 = .ok (.bipush 9, 2) ∧ decode cX10_slice 52 = .ok (.invokevirtual 177, 3) ∧ True := dqC_ok (c := cX10_slice) [(0, 1, some (.aload_n 0)), (1, 1, some (.iconst 0)), (2, 3, some (.putfield 167)), (5, 1, some (.aload_n 0)), (6, 1, some (.iload_n 1)), (7, 1, some (.iload_n 2)), (8, 3, some (.invokevirtual 181)), (11, 3, some (.ifCond .eq 47)), (14, 1, some (.aload_n 0)), (15, 3, some (.getfield 32)), (18, 1, some (.iload_n 1)), (19, 1, some (.iaload)), (20, 3, some (.ifCond .gt 38)), (23, 1, some (.aload_n 0)), (24, 1, some (.iload_n 3)), (25, 1, some (.iconst 1)), (26, 2, some (.bipush 99)), (28, 3, some (.invokevirtual 177)), (31, 3, some (.ifCond .eq 27)), (34, 1, some (.aload_n 0)), (35, 2, some (.iload 4)), (37, 1, some (.iconst 1)), (38, 2, some (.bipush 9)), (40, 3, some (.invokevirtual 177)), (43, 3, some (.ifCond .eq 15)), (46, 1, some (.aload_n 0)), (47, 2, some (.iload 5)), (49, 1, some (.iconst 1)), (50, 2, some (.bipush 9)), (52, 3, some (.invokevirtual 177))] _ 0 rfl (by decide +kernel)
theorem dX10_slice_0 : decode cX10_slice 0 = .ok (.aload_n 0, 1) := dq_g282.1
theorem dX10_slice_1 : decode cX10_slice 1 = .ok (.iconst 0, 1) := dq_g282.2.1
theorem dX10_slice_2 : decode cX10_slice 2 = .ok (.putfield 167, 3) := dq_g282.2.2.1
theorem dX10_slice_5 : decode cX10_slice 5 = .ok (.aload_n 0, 1) := dq_g282.2.2.2.1
theorem dX10_slice_6 : decode cX10_slice 6 = .ok (.iload_n 1, 1) := dq_g282.2.2.2.2.1
theorem dX10_slice_7 : decode cX10_slice 7 = .ok (.iload_n 2, 1) := dq_g282.2.2.2.2.2.1
theorem dX10_slice_8 : decode cX10_slice 8 = .ok (.invokevirtual 181, 3) := dq_g282.2.2.2.2.2.2.1
theorem dX10_slice_11 : decode cX10_slice 11 = .ok (.ifCond .eq 47, 3) := dq_g282.2.2.2.2.2.2.2.1
theorem dX10_slice_14 : decode cX10_slice 14 = .ok (.aload_n 0, 1) := dq_g282.2.2.2.2.2.2.2.2.1
theorem dX10_slice_15 : decode cX10_slice 15 = .ok (.getfield 32, 3) := dq_g282.2.2.2.2.2.2.2.2.2.1
theorem dX10_slice_18 : decode cX10_slice 18 = .ok (.iload_n 1, 1) := dq_g282.2.2.2.2.2.2.2.2.2.2.1
theorem dX10_slice_19 : decode cX10_slice 19 = .ok (.iaload, 1) := dq_g282.2.2.2.2.2.2.2.2.2.2.2.1
theorem dX10_slice_20 : decode cX10_slice 20 = .ok (.ifCond .gt 38, 3) := dq_g282.2.2.2.2.2.2.2.2.2.2.2.2.1
theorem dX10_slice_23 : decode cX10_slice 23 = .ok (.aload_n 0, 1) := dq_g282.2.2.2.2.2.2.2.2.2.2.2.2.2.1
theorem dX10_slice_24 : decode cX10_slice 24 = .ok (.iload_n 3, 1) := dq_g282.2.2.2.2.2.2.2.2.2.2.2.2.2.2.1
theorem dX10_slice_25 : decode cX10_slice 25 = .ok (.iconst 1, 1) := dq_g282.2.2.2.2.2.2.2.2.2.2.2.2.2.2.2.1
theorem dX10_slice_26 : decode cX10_slice 26 = .ok (.bipush 99, 2) := dq_g282.2.2.2.2.2.2.2.2.2.2.2.2.2.2.2.2.1
theorem dX10_slice_28 : decode cX10_slice 28 = .ok (.invokevirtual 177, 3) := dq_g282.2.2.2.2.2.2.2.2.2.2.2.2.2.2.2.2.2.1
theorem dX10_slice_31 : decode cX10_slice 31 = .ok (.ifCond .eq 27, 3) := dq_g282.2.2.2.2.2.2.2.2.2.2.2.2.2.2.2.2.2.2.1
theorem dX10_slice_34 : decode cX10_slice 34 = .ok (.aload_n 0, 1) := dq_g282.2.2.2.2.2.2.2.2.2.2.2.2.2.2.2.2.2.2.2.1
theorem dX10_slice_35 : decode cX10_slice 35 = .ok (.iload 4, 2) := dq_g282.2.2.2.2.2.2.2.2.2.2.2.2.2.2.2.2.2.2.2.2.1
theorem dX10_slice_37 : decode cX10_slice 37 = .ok (.iconst 1, 1) := dq_g282.2.2.2.2.2.2.2.2.2.2.2.2.2.2.2.2.2.2.2.2.2.1
theorem dX10_slice_38 : decode cX10_slice 38 = .ok (.bipush 9, 2) := dq_g282.2.2.2.2.2.2.2.2.2.2.2.2.2.2.2.2.2.2.2.2.2.2.1
theorem dX10_slice_40 : decode cX10_slice 40 = .ok (.invokevirtual 177, 3) := dq_g282.2.2.2.2.2.2.2.2.2.2.2.2.2.2.2.2.2.2.2.2.2.2.2.1
theorem dX10_slice_43 : decode cX10_slice 43 = .ok (.ifCond .eq 15, 3) := dq_g282.2.2.2.2.2.2.2.2.2.2.2.2.2.2.2.2.2.2.2.2.2.2.2.2.1
theorem dX10_slice_46 : decode cX10_slice 46 = .ok (.aload_n 0, 1) := dq_g282.2.2.2.2.2.2.2.2.2.2.2.2.2.2.2.2.2.2.2.2.2.2.2.2.2.1
theorem dX10_slice_47 : decode cX10_slice 47 = .ok (.iload 5, 2) := dq_g282.2.2.2.2.2.2.2.2.2.2.2.2.2.2.2.2.2.2.2.2.2.2.2.2.2.2.1
theorem dX10_slice_49 : decode cX10_slice 49 = .ok (.iconst 1, 1) := dq_g282.2.2.2.2.2.2.2.2.2.2.2.2.2.2.2.2.2.2.2.2.2.2.2.2.2.2.2.1
theorem dX10_slice_50 : decode cX10_slice 50 = .ok (.bipush 9, 2) := dq_g282.2.2.2.2.2.2.2.2.2.2.2.2.2.2.2.2.2.2.2.2.2.2.2.2.2.2.2.2.1
theorem dX10_slice_52 : decode cX10_slice 52 = .ok (.invokevirtual 177, 3) := dq_g282.2.2.2.2.2.2.2.2.2.2.2.2.2.2.2.2.2.2.2.2.2.2.2.2.2.2.2.2.2.1
theorem dq_g283 : decode cX10_slice 55 = .ok (.ifCond .ne 5, 3) ∧ decode cX10_slice 58 = .ok (.iconst 0, 1) ∧ decode cX10_slice 59 = .ok (.ireturn, 1) ∧ decode cX10_slice 60 = .ok (.aload_n 0, 1) ∧ decode cX10_slice 61 = .ok (.getfield 17, 3) ∧ decode cX10_slice 64 = .ok (.bipush 16, 2) ∧ decode cX10_slice 66 = .ok (.iload_n 1, 1) ∧ decode cX10_slice 67 = .ok (.imul, 1) ∧ decode cX10_slice 68 = .ok (.iload_n 2, 1) ∧ decode cX10_slice 69 = .ok (.iadd, 1) ∧ decode cX10_slice 70 = .ok (.iload_n 3, 1) ∧ decode cX10_slice 71 = .ok (.iastore, 1) ∧ decode cX10_slice 72 = .ok (.aload_n 0, 1) ∧ decode cX10_slice 73 = .ok (.getfield 20, 3) ∧ decode cX10_slice 76 = .ok (.bipush 16, 2) ∧ decode cX10_slice 78 = .ok (.iload_n 1, 1) ∧ decode cX10_slice 79 = .ok (.imul, 1) ∧ decode cX10_slice 80 = .ok (.iload_n 2, 1) ∧ decode cX10_slice 81 = .ok (.iadd, 1) ∧ decode cX10_slice 82 = .ok (.iload 4, 2) ∧ decode cX10_slice 84 = .ok (.iastore, 1) ∧ decode cX10_slice 85 = .ok (.aload_n 0, 1) ∧ decode cX10_slice 86 = .ok (.getfield 23, 3) ∧ decode cX10_slice 89 = .ok (.bipush 16, 2) ∧ decode cX10_slice 91 = .ok (.iload_n 1, 1) ∧ decode cX10_slice 92 = .ok (.imul, 1) ∧ decode cX10_slice 93 = .ok (.iload_n 2, 1) ∧ decode cX10_slice 94 = .ok (.iadd, 1) ∧ decode cX10_slice 95 = .ok (.iload 5, 2) ∧ decode cX10_slice 97 = .ok (.iastore, 1) ∧ True := dqC_ok (c := cX10_slice) [(55, 3, some (.ifCond .ne 5)), (58, 1, some (.iconst 0)), (59, 1, some (.ireturn)), (60, 1, some (.aload_n 0)), (61, 3, some (.getfield 17)), (64, 2, some (.bipush 16)), (66, 1, some (.iload_n 1)), (67, 1, some (.imul)), (68, 1, some (.iload_n 2)), (69, 1, some (.iadd)), (70, 1, some (.iload_n 3)), (71, 1, some (.iastore)), (72, 1, some (.aload_n 0)), (73, 3, some (.getfield 20)), (76, 2, some (.bipush 16)), (78, 1, some (.iload_n 1)), (79, 1, some (.imul)), (80, 1, some (.iload_n 2)), (81, 1, some (.iadd)), (82, 2, some (.iload 4)), (84, 1, some (.iastore)), (85, 1, some (.aload_n 0)), (86, 3, some (.getfield 23)), (89, 2, some (.bipush 16)), (91, 1, some (.iload_n 1)), (92, 1, some (.imul)), (93, 1, some (.iload_n 2)), (94, 1, some (.iadd)), (95, 2, some (.iload 5)), (97, 1, some (.iastore))] _ 55 rfl (by decide +kernel)
theorem dX10_slice_55 : decode cX10_slice 55 = .ok (.ifCond .ne 5, 3) := dq_g283.1
theorem dX10_slice_58 : decode cX10_slice 58 = .ok (.iconst 0, 1) := dq_g283.2.1
theorem dX10_slice_59 : decode cX10_slice 59 = .ok (.ireturn, 1) := dq_g283.2.2.1
theorem dX10_slice_60 : decode cX10_slice 60 = .ok (.aload_n 0, 1) := dq_g283.2.2.2.1
theorem dX10_slice_61 : decode cX10_slice 61 = .ok (.getfield 17, 3) := dq_g283.2.2.2.2.1
theorem dX10_slice_64 : decode cX10_slice 64 = .ok (.bipush 16, 2) := dq_g283.2.2.2.2.2.1
theorem dX10_slice_66 : decode cX10_slice 66 = .ok (.iload_n 1, 1) := dq_g283.2.2.2.2.2.2.1
theorem dX10_slice_67 : decode cX10_slice 67 = .ok (.imul, 1) := dq_g283.2.2.2.2.2.2.2.1
theorem dX10_slice_68 : decode cX10_slice 68 = .ok (.iload_n 2, 1) := dq_g283.2.2.2.2.2.2.2.2.1
theorem dX10_slice_69 : decode cX10_slice 69 = .ok (.iadd, 1) := dq_g283.2.2.2.2.2.2.2.2.2.1
theorem dX10_slice_70 : decode cX10_slice 70 = .ok (.iload_n 3, 1) := dq_g283.2.2.2.2.2.2.2.2.2.2.1
theorem dX10_slice_71 : decode cX10_slice 71 = .ok (.iastore, 1) := dq_g283.2.2.2.2.2.2.2.2.2.2.2.1
theorem dX10_slice_72 : decode cX10_slice 72 = .ok (.aload_n 0, 1) := dq_g283.2.2.2.2.2.2.2.2.2.2.2.2.1
theorem dX10_slice_73 : decode cX10_slice 73 = .ok (.getfield 20, 3) := dq_g283.2.2.2.2.2.2.2.2.2.2.2.2.2.1
theorem dX10_slice_76 : decode cX10_slice 76 = .ok (.bipush 16, 2) := dq_g283.2.2.2.2.2.2.2.2.2.2.2.2.2.2.1
theorem dX10_slice_78 : decode cX10_slice 78 = .ok (.iload_n 1, 1) := dq_g283.2.2.2.2.2.2.2.2.2.2.2.2.2.2.2.1
theorem dX10_slice_79 : decode cX10_slice 79 = .ok (.imul, 1) := dq_g283.2.2.2.2.2.2.2.2.2.2.2.2.2.2.2.2.1
theorem dX10_slice_80 : decode cX10_slice 80 = .ok (.iload_n 2, 1) := dq_g283.2.2.2.2.2.2.2.2.2.2.2.2.2.2.2.2.2.1
theorem dX10_slice_81 : decode cX10_slice 81 = .ok (.iadd, 1) := dq_g283.2.2.2.2.2.2.2.2.2.2.2.2.2.2.2.2.2.2.1
theorem dX10_slice_82 : decode cX10_slice 82 = .ok (.iload 4, 2) := dq_g283.2.2.2.2.2.2.2.2.2.2.2.2.2.2.2.2.2.2.2.1
theorem dX10_slice_84 : decode cX10_slice 84 = .ok (.iastore, 1) := dq_g283.2.2.2.2.2.2.2.2.2.2.2.2.2.2.2.2.2.2.2.2.1
theorem dX10_slice_85 : decode cX10_slice 85 = .ok (.aload_n 0, 1) := dq_g283.2.2.2.2.2.2.2.2.2.2.2.2.2.2.2.2.2.2.2.2.2.1
theorem dX10_slice_86 : decode cX10_slice 86 = .ok (.getfield 23, 3) := dq_g283.2.2.2.2.2.2.2.2.2.2.2.2.2.2.2.2.2.2.2.2.2.2.1
theorem dX10_slice_89 : decode cX10_slice 89 = .ok (.bipush 16, 2) := dq_g283.2.2.2.2.2.2.2.2.2.2.2.2.2.2.2.2.2.2.2.2.2.2.2.1
theorem dX10_slice_91 : decode cX10_slice 91 = .ok (.iload_n 1, 1) := dq_g283.2.2.2.2.2.2.2.2.2.2.2.2.2.2.2.2.2.2.2.2.2.2.2.2.1
theorem dX10_slice_92 : decode cX10_slice 92 = .ok (.imul, 1) := dq_g283.2.2.2.2.2.2.2.2.2.2.2.2.2.2.2.2.2.2.2.2.2.2.2.2.2.1
theorem dX10_slice_93 : decode cX10_slice 93 = .ok (.iload_n 2, 1) := dq_g283.2.2.2.2.2.2.2.2.2.2.2.2.2.2.2.2.2.2.2.2.2.2.2.2.2.2.1
theorem dX10_slice_94 : decode cX10_slice 94 = .ok (.iadd, 1) := dq_g283.2.2.2.2.2.2.2.2.2.2.2.2.2.2.2.2.2.2.2.2.2.2.2.2.2.2.2.1
theorem dX10_slice_95 : decode cX10_slice 95 = .ok (.iload 5, 2) := dq_g283.2.2.2.2.2.2.2.2.2.2.2.2.2.2.2.2.2.2.2.2.2.2.2.2.2.2.2.2.1
theorem dX10_slice_97 : decode cX10_slice 97 = .ok (.iastore, 1) := dq_g283.2.2.2.2.2.2.2.2.2.2.2.2.2.2.2.2.2.2.2.2.2.2.2.2.2.2.2.2.2.1
theorem dq_g284 : decode cX10_slice 98 = .ok (.iconst 1, 1) ∧ decode cX10_slice 99 = .ok (.ireturn, 1) ∧ True := dqC_ok (c := cX10_slice) [(98, 1, some (.iconst 1)), (99, 1, some (.ireturn))] _ 98 rfl (by decide +kernel)
theorem dX10_slice_98 : decode cX10_slice 98 = .ok (.iconst 1, 1) := dq_g284.1
theorem dX10_slice_99 : decode cX10_slice 99 = .ok (.ireturn, 1) := dq_g284.2.1
theorem dq_g285 : decode cX10_wax 0 = .ok (.aload_n 0, 1) ∧ decode cX10_wax 1 = .ok (.iconst 0, 1) ∧ decode cX10_wax 2 = .ok (.putfield 167, 3) ∧ decode cX10_wax 5 = .ok (.aload_n 0, 1) ∧ decode cX10_wax 6 = .ok (.iload_n 1, 1) ∧ decode cX10_wax 7 = .ok (.iload_n 2, 1) ∧ decode cX10_wax 8 = .ok (.invokevirtual 181, 3) ∧ decode cX10_wax 11 = .ok (.ifCond .eq 14, 3) ∧ decode cX10_wax 14 = .ok (.aload_n 0, 1) ∧ decode cX10_wax 15 = .ok (.iload_n 3, 1) ∧ decode cX10_wax 16 = .ok (.iconst 0, 1) ∧ decode cX10_wax 17 = .ok (.bipush 99, 2) ∧ decode cX10_wax 19 = .ok (.invokevirtual 177, 3) ∧ decode cX10_wax 22 = .ok (.ifCond .ne 5, 3) ∧ decode cX10_wax 25 = .ok (.iconst 0, 1) ∧ decode cX10_wax 26 = .ok (.ireturn, 1) ∧ decode cX10_wax 27 = .ok (.aload_n 0, 1) ∧ decode cX10_wax 28 = .ok (.getfield 26, 3) ∧ decode cX10_wax 31 = .ok (.bipush 16, 2) ∧ decode cX10_wax 33 = .ok (.iload_n 1, 1) ∧ decode cX10_wax 34 = .ok (.imul, 1) ∧ decode cX10_wax 35 = .ok (.iload_n 2, 1) ∧ decode cX10_wax 36 = .ok (.iadd, 1) ∧ decode cX10_wax 37 = .ok (.iload_n 3, 1) ∧ decode cX10_wax 38 = .ok (.iastore, 1) ∧ decode cX10_wax 39 = .ok (.iconst 1, 1) ∧ decode cX10_wax 40 = .ok (.ireturn, 1) ∧ True := dqC_ok (c := cX10_wax) [(0, 1, some (.aload_n 0)), (1, 1, some (.iconst 0)), (2, 3, some (.putfield 167)), (5, 1, some (.aload_n 0)), (6, 1, some (.iload_n 1)), (7, 1, some (.iload_n 2)), (8, 3, some (.invokevirtual 181)), (11, 3, some (.ifCond .eq 14)), (14, 1, some (.aload_n 0)), (15, 1, some (.iload_n 3)), (16, 1, some (.iconst 0)), (17, 2, some (.bipush 99)), (19, 3, some (.invokevirtual 177)), (22, 3, some (.ifCond .ne 5)), (25, 1, some (.iconst 0)), (26, 1, some (.ireturn)), (27, 1, some (.aload_n 0)), (28, 3, some (.getfield 26)), (31, 2, some (.bipush 16)), (33, 1, some (.iload_n 1)), (34, 1, some (.imul)), (35, 1, some (.iload_n 2)), (36, 1, some (.iadd)), (37, 1, some (.iload_n 3)), (38, 1, some (.iastore)), (39, 1, some (.iconst 1)), (40, 1, some (.ireturn))] _ 0 rfl (by decide +kernel)
theorem dX10_wax_0 : decode cX10_wax 0 = .ok (.aload_n 0, 1) := dq_g285.1
theorem dX10_wax_1 : decode cX10_wax 1 = .ok (.iconst 0, 1) := dq_g285.2.1
theorem dX10_wax_2 : decode cX10_wax 2 = .ok (.putfield 167, 3) := dq_g285.2.2.1
theorem dX10_wax_5 : decode cX10_wax 5 = .ok (.aload_n 0, 1) := dq_g285.2.2.2.1
theorem dX10_wax_6 : decode cX10_wax 6 = .ok (.iload_n 1, 1) := dq_g285.2.2.2.2.1
theorem dX10_wax_7 : decode cX10_wax 7 = .ok (.iload_n 2, 1) := dq_g285.2.2.2.2.2.1
theorem dX10_wax_8 : decode cX10_wax 8 = .ok (.invokevirtual 181, 3) := dq_g285.2.2.2.2.2.2.1
theorem dX10_wax_11 : decode cX10_wax 11 = .ok (.ifCond .eq 14, 3) := dq_g285.2.2.2.2.2.2.2.1
theorem dX10_wax_14 : decode cX10_wax 14 = .ok (.aload_n 0, 1) := dq_g285.2.2.2.2.2.2.2.2.1
theorem dX10_wax_15 : decode cX10_wax 15 = .ok (.iload_n 3, 1) := dq_g285.2.2.2.2.2.2.2.2.2.1
theorem dX10_wax_16 : decode cX10_wax 16 = .ok (.iconst 0, 1) := dq_g285.2.2.2.2.2.2.2.2.2.2.1
theorem dX10_wax_17 : decode cX10_wax 17 = .ok (.bipush 99, 2) := dq_g285.2.2.2.2.2.2.2.2.2.2.2.1
theorem dX10_wax_19 : decode cX10_wax 19 = .ok (.invokevirtual 177, 3) := dq_g285.2.2.2.2.2.2.2.2.2.2.2.2.1
theorem dX10_wax_22 : decode cX10_wax 22 = .ok (.ifCond .ne 5, 3) := dq_g285.2.2.2.2.2.2.2.2.2.2.2.2.2.1
theorem dX10_wax_25 : decode cX10_wax 25 = .ok (.iconst 0, 1) := dq_g285.2.2.2.2.2.2.2.2.2.2.2.2.2.2.1
theorem dX10_wax_26 : decode cX10_wax 26 = .ok (.ireturn, 1) := dq_g285.2.2.2.2.2.2.2.2.2.2.2.2.2.2.2.1
theorem dX10_wax_27 : decode cX10_wax 27 = .ok (.aload_n 0, 1) := dq_g285.2.2.2.2.2.2.2.2.2.2.2.2.2.2.2.2.1
theorem dX10_wax_28 : decode cX10_wax 28 = .ok (.getfield 26, 3) := dq_g285.2.2.2.2.2.2.2.2.2.2.2.2.2.2.2.2.2.1
theorem dX10_wax_31 : decode cX10_wax 31 = .ok (.bipush 16, 2) := dq_g285.2.2.2.2.2.2.2.2.2.2.2.2.2.2.2.2.2.2.1
theorem dX10_wax_33 : decode cX10_wax 33 = .ok (.iload_n 1, 1) := dq_g285.2.2.2.2.2.2.2.2.2.2.2.2.2.2.2.2.2.2.2.1
theorem dX10_wax_34 : decode cX10_wax 34 = .ok (.imul, 1) := dq_g285.2.2.2.2.2.2.2.2.2.2.2.2.2.2.2.2.2.2.2.2.1
theorem dX10_wax_35 : decode cX10_wax 35 = .ok (.iload_n 2, 1) := dq_g285.2.2.2.2.2.2.2.2.2.2.2.2.2.2.2.2.2.2.2.2.2.1
theorem dX10_wax_36 : decode cX10_wax 36 = .ok (.iadd, 1) := dq_g285.2.2.2.2.2.2.2.2.2.2.2.2.2.2.2.2.2.2.2.2.2.2.1
theorem dX10_wax_37 : decode cX10_wax 37 = .ok (.iload_n 3, 1) := dq_g285.2.2.2.2.2.2.2.2.2.2.2.2.2.2.2.2.2.2.2.2.2.2.2.1
theorem dX10_wax_38 : decode cX10_wax 38 = .ok (.iastore, 1) := dq_g285.2.2.2.2.2.2.2.2.2.2.2.2.2.2.2.2.2.2.2.2.2.2.2.2.1
theorem dX10_wax_39 : decode cX10_wax 39 = .ok (.iconst 1, 1) := dq_g285.2.2.2.2.2.2.2.2.2.2.2.2.2.2.2.2.2.2.2.2.2.2.2.2.2.1
theorem dX10_wax_40 : decode cX10_wax 40 = .ok (.ireturn, 1) := dq_g285.2.2.2.2.2.2.2.2.2.2.2.2.2.2.2.2.2.2.2.2.2.2.2.2.2.2.1
theorem dq_g286 : decode cX10_of 0 = .ok (.aload_n 0, 1) ∧ decode cX10_of 1 = .ok (.iconst 0, 1) ∧ decode cX10_of 2 = .ok (.putfield 167, 3) ∧ decode cX10_of 5 = .ok (.aload_n 0, 1) ∧ decode cX10_of 6 = .ok (.iload_n 1, 1) ∧ decode cX10_of 7 = .ok (.iload_n 2, 1) ∧ decode cX10_of 8 = .ok (.invokevirtual 181, 3) ∧ decode cX10_of 11 = .ok (.ifCond .ne 5, 3) ∧ decode cX10_of 14 = .ok (.iconst (-1), 1) ∧ decode cX10_of 15 = .ok (.ireturn, 1) ∧ decode cX10_of 16 = .ok (.bipush 16, 2) ∧ decode cX10_of 18 = .ok (.iload_n 1, 1) ∧ decode cX10_of 19 = .ok (.imul, 1) ∧ decode cX10_of 20 = .ok (.iload_n 2, 1) ∧ decode cX10_of 21 = .ok (.iadd, 1) ∧ decode cX10_of 22 = .ok (.istore 4, 2) ∧ decode cX10_of 24 = .ok (.iload_n 3, 1) ∧ decode cX10_of 25 = .ok (.ifCond .ne 13, 3) ∧ decode cX10_of 28 = .ok (.aload_n 0, 1) ∧ decode cX10_of 29 = .ok (.getfield 17, 3) ∧ decode cX10_of 32 = .ok (.iload 4, 2) ∧ decode cX10_of 34 = .ok (.iaload, 1) ∧ decode cX10_of 35 = .ok (.goto 49, 3) ∧ decode cX10_of 38 = .ok (.iload_n 3, 1) ∧ decode cX10_of 39 = .ok (.iconst 1, 1) ∧ decode cX10_of 40 = .ok (.if_icmp .ne 13, 3) ∧ decode cX10_of 43 = .ok (.aload_n 0, 1) ∧ decode cX10_of 44 = .ok (.getfield 20, 3) ∧ decode cX10_of 47 = .ok (.iload 4, 2) ∧ decode cX10_of 49 = .ok (.iaload, 1) ∧ True := dqC_ok (c := cX10_of) [(0, 1, some (.aload_n 0)), (1, 1, some (.iconst 0)), (2, 3, some (.putfield 167)), (5, 1, some (.aload_n 0)), (6, 1, some (.iload_n 1)), (7, 1, some (.iload_n 2)), (8, 3, some (.invokevirtual 181)), (11, 3, some (.ifCond .ne 5)), (14, 1, some (.iconst (-1))), (15, 1, some (.ireturn)), (16, 2, some (.bipush 16)), (18, 1, some (.iload_n 1)), (19, 1, some (.imul)), (20, 1, some (.iload_n 2)), (21, 1, some (.iadd)), (22, 2, some (.istore 4)), (24, 1, some (.iload_n 3)), (25, 3, some (.ifCond .ne 13)), (28, 1, some (.aload_n 0)), (29, 3, some (.getfield 17)), (32, 2, some (.iload 4)), (34, 1, some (.iaload)), (35, 3, some (.goto 49)), (38, 1, some (.iload_n 3)), (39, 1, some (.iconst 1)), (40, 3, some (.if_icmp .ne 13)), (43, 1, some (.aload_n 0)), (44, 3, some (.getfield 20)), (47, 2, some (.iload 4)), (49, 1, some (.iaload))] _ 0 rfl (by decide +kernel)
theorem dX10_of_0 : decode cX10_of 0 = .ok (.aload_n 0, 1) := dq_g286.1
theorem dX10_of_1 : decode cX10_of 1 = .ok (.iconst 0, 1) := dq_g286.2.1
theorem dX10_of_2 : decode cX10_of 2 = .ok (.putfield 167, 3) := dq_g286.2.2.1
theorem dX10_of_5 : decode cX10_of 5 = .ok (.aload_n 0, 1) := dq_g286.2.2.2.1
theorem dX10_of_6 : decode cX10_of 6 = .ok (.iload_n 1, 1) := dq_g286.2.2.2.2.1
theorem dX10_of_7 : decode cX10_of 7 = .ok (.iload_n 2, 1) := dq_g286.2.2.2.2.2.1
theorem dX10_of_8 : decode cX10_of 8 = .ok (.invokevirtual 181, 3) := dq_g286.2.2.2.2.2.2.1
theorem dX10_of_11 : decode cX10_of 11 = .ok (.ifCond .ne 5, 3) := dq_g286.2.2.2.2.2.2.2.1
theorem dX10_of_14 : decode cX10_of 14 = .ok (.iconst (-1), 1) := dq_g286.2.2.2.2.2.2.2.2.1
theorem dX10_of_15 : decode cX10_of 15 = .ok (.ireturn, 1) := dq_g286.2.2.2.2.2.2.2.2.2.1
theorem dX10_of_16 : decode cX10_of 16 = .ok (.bipush 16, 2) := dq_g286.2.2.2.2.2.2.2.2.2.2.1
theorem dX10_of_18 : decode cX10_of 18 = .ok (.iload_n 1, 1) := dq_g286.2.2.2.2.2.2.2.2.2.2.2.1
theorem dX10_of_19 : decode cX10_of 19 = .ok (.imul, 1) := dq_g286.2.2.2.2.2.2.2.2.2.2.2.2.1
theorem dX10_of_20 : decode cX10_of 20 = .ok (.iload_n 2, 1) := dq_g286.2.2.2.2.2.2.2.2.2.2.2.2.2.1
theorem dX10_of_21 : decode cX10_of 21 = .ok (.iadd, 1) := dq_g286.2.2.2.2.2.2.2.2.2.2.2.2.2.2.1
theorem dX10_of_22 : decode cX10_of 22 = .ok (.istore 4, 2) := dq_g286.2.2.2.2.2.2.2.2.2.2.2.2.2.2.2.1
theorem dX10_of_24 : decode cX10_of 24 = .ok (.iload_n 3, 1) := dq_g286.2.2.2.2.2.2.2.2.2.2.2.2.2.2.2.2.1
theorem dX10_of_25 : decode cX10_of 25 = .ok (.ifCond .ne 13, 3) := dq_g286.2.2.2.2.2.2.2.2.2.2.2.2.2.2.2.2.2.1
theorem dX10_of_28 : decode cX10_of 28 = .ok (.aload_n 0, 1) := dq_g286.2.2.2.2.2.2.2.2.2.2.2.2.2.2.2.2.2.2.1
theorem dX10_of_29 : decode cX10_of 29 = .ok (.getfield 17, 3) := dq_g286.2.2.2.2.2.2.2.2.2.2.2.2.2.2.2.2.2.2.2.1
theorem dX10_of_32 : decode cX10_of 32 = .ok (.iload 4, 2) := dq_g286.2.2.2.2.2.2.2.2.2.2.2.2.2.2.2.2.2.2.2.2.1
theorem dX10_of_34 : decode cX10_of 34 = .ok (.iaload, 1) := dq_g286.2.2.2.2.2.2.2.2.2.2.2.2.2.2.2.2.2.2.2.2.2.1
theorem dX10_of_35 : decode cX10_of 35 = .ok (.goto 49, 3) := dq_g286.2.2.2.2.2.2.2.2.2.2.2.2.2.2.2.2.2.2.2.2.2.2.1
theorem dX10_of_38 : decode cX10_of 38 = .ok (.iload_n 3, 1) := dq_g286.2.2.2.2.2.2.2.2.2.2.2.2.2.2.2.2.2.2.2.2.2.2.2.1
theorem dX10_of_39 : decode cX10_of 39 = .ok (.iconst 1, 1) := dq_g286.2.2.2.2.2.2.2.2.2.2.2.2.2.2.2.2.2.2.2.2.2.2.2.2.1
theorem dX10_of_40 : decode cX10_of 40 = .ok (.if_icmp .ne 13, 3) := dq_g286.2.2.2.2.2.2.2.2.2.2.2.2.2.2.2.2.2.2.2.2.2.2.2.2.2.1
theorem dX10_of_43 : decode cX10_of 43 = .ok (.aload_n 0, 1) := dq_g286.2.2.2.2.2.2.2.2.2.2.2.2.2.2.2.2.2.2.2.2.2.2.2.2.2.2.1
theorem dX10_of_44 : decode cX10_of 44 = .ok (.getfield 20, 3) := dq_g286.2.2.2.2.2.2.2.2.2.2.2.2.2.2.2.2.2.2.2.2.2.2.2.2.2.2.2.1
theorem dX10_of_47 : decode cX10_of 47 = .ok (.iload 4, 2) := dq_g286.2.2.2.2.2.2.2.2.2.2.2.2.2.2.2.2.2.2.2.2.2.2.2.2.2.2.2.2.1
theorem dX10_of_49 : decode cX10_of 49 = .ok (.iaload, 1) := dq_g286.2.2.2.2.2.2.2.2.2.2.2.2.2.2.2.2.2.2.2.2.2.2.2.2.2.2.2.2.2.1
theorem dq_g287 : decode cX10_of 50 = .ok (.goto 34, 3) ∧ decode cX10_of 53 = .ok (.iload_n 3, 1) ∧ decode cX10_of 54 = .ok (.iconst 2, 1) ∧ decode cX10_of 55 = .ok (.if_icmp .ne 13, 3) ∧ decode cX10_of 58 = .ok (.aload_n 0, 1) ∧ decode cX10_of 59 = .ok (.getfield 23, 3) ∧ decode cX10_of 62 = .ok (.iload 4, 2) ∧ decode cX10_of 64 = .ok (.iaload, 1) ∧ decode cX10_of 65 = .ok (.goto 19, 3) ∧ decode cX10_of 68 = .ok (.iload_n 3, 1) ∧ decode cX10_of 69 = .ok (.iconst 3, 1) ∧ decode cX10_of 70 = .ok (.if_icmp .ne 13, 3) ∧ decode cX10_of 73 = .ok (.aload_n 0, 1) ∧ decode cX10_of 74 = .ok (.getfield 26, 3) ∧ decode cX10_of 77 = .ok (.iload 4, 2) ∧ decode cX10_of 79 = .ok (.iaload, 1) ∧ decode cX10_of 80 = .ok (.goto 4, 3) ∧ decode cX10_of 83 = .ok (.iconst (-1), 1) ∧ decode cX10_of 84 = .ok (.ireturn, 1) ∧ True := dqC_ok (c := cX10_of) [(50, 3, some (.goto 34)), (53, 1, some (.iload_n 3)), (54, 1, some (.iconst 2)), (55, 3, some (.if_icmp .ne 13)), (58, 1, some (.aload_n 0)), (59, 3, some (.getfield 23)), (62, 2, some (.iload 4)), (64, 1, some (.iaload)), (65, 3, some (.goto 19)), (68, 1, some (.iload_n 3)), (69, 1, some (.iconst 3)), (70, 3, some (.if_icmp .ne 13)), (73, 1, some (.aload_n 0)), (74, 3, some (.getfield 26)), (77, 2, some (.iload 4)), (79, 1, some (.iaload)), (80, 3, some (.goto 4)), (83, 1, some (.iconst (-1))), (84, 1, some (.ireturn))] _ 50 rfl (by decide +kernel)
theorem dX10_of_50 : decode cX10_of 50 = .ok (.goto 34, 3) := dq_g287.1
theorem dX10_of_53 : decode cX10_of 53 = .ok (.iload_n 3, 1) := dq_g287.2.1
theorem dX10_of_54 : decode cX10_of 54 = .ok (.iconst 2, 1) := dq_g287.2.2.1
theorem dX10_of_55 : decode cX10_of 55 = .ok (.if_icmp .ne 13, 3) := dq_g287.2.2.2.1
theorem dX10_of_58 : decode cX10_of 58 = .ok (.aload_n 0, 1) := dq_g287.2.2.2.2.1
theorem dX10_of_59 : decode cX10_of 59 = .ok (.getfield 23, 3) := dq_g287.2.2.2.2.2.1
theorem dX10_of_62 : decode cX10_of 62 = .ok (.iload 4, 2) := dq_g287.2.2.2.2.2.2.1
theorem dX10_of_64 : decode cX10_of 64 = .ok (.iaload, 1) := dq_g287.2.2.2.2.2.2.2.1
theorem dX10_of_65 : decode cX10_of 65 = .ok (.goto 19, 3) := dq_g287.2.2.2.2.2.2.2.2.1
theorem dX10_of_68 : decode cX10_of 68 = .ok (.iload_n 3, 1) := dq_g287.2.2.2.2.2.2.2.2.2.1
theorem dX10_of_69 : decode cX10_of 69 = .ok (.iconst 3, 1) := dq_g287.2.2.2.2.2.2.2.2.2.2.1
theorem dX10_of_70 : decode cX10_of 70 = .ok (.if_icmp .ne 13, 3) := dq_g287.2.2.2.2.2.2.2.2.2.2.2.1
theorem dX10_of_73 : decode cX10_of 73 = .ok (.aload_n 0, 1) := dq_g287.2.2.2.2.2.2.2.2.2.2.2.2.1
theorem dX10_of_74 : decode cX10_of 74 = .ok (.getfield 26, 3) := dq_g287.2.2.2.2.2.2.2.2.2.2.2.2.2.1
theorem dX10_of_77 : decode cX10_of 77 = .ok (.iload 4, 2) := dq_g287.2.2.2.2.2.2.2.2.2.2.2.2.2.2.1
theorem dX10_of_79 : decode cX10_of 79 = .ok (.iaload, 1) := dq_g287.2.2.2.2.2.2.2.2.2.2.2.2.2.2.2.1
theorem dX10_of_80 : decode cX10_of 80 = .ok (.goto 4, 3) := dq_g287.2.2.2.2.2.2.2.2.2.2.2.2.2.2.2.2.1
theorem dX10_of_83 : decode cX10_of 83 = .ok (.iconst (-1), 1) := dq_g287.2.2.2.2.2.2.2.2.2.2.2.2.2.2.2.2.2.1
theorem dX10_of_84 : decode cX10_of 84 = .ok (.ireturn, 1) := dq_g287.2.2.2.2.2.2.2.2.2.2.2.2.2.2.2.2.2.2.1
theorem dq_g288 : decode cX10_puts 0 = .ok (.bipush 24, 2) ∧ decode cX10_puts 2 = .ok (.istore_n 2, 1) ∧ decode cX10_puts 3 = .ok (.iload_n 2, 1) ∧ decode cX10_puts 4 = .ok (.ifCond .lt 35, 3) ∧ decode cX10_puts 7 = .ok (.aload_n 0, 1) ∧ decode cX10_puts 8 = .ok (.getfield 53, 3) ∧ decode cX10_puts 11 = .ok (.aload_n 0, 1) ∧ decode cX10_puts 12 = .ok (.getfield 185, 3) ∧ decode cX10_puts 15 = .ok (.iload_n 1, 1) ∧ decode cX10_puts 16 = .ok (.iload_n 2, 1) ∧ decode cX10_puts 17 = .ok (.ishr, 1) ∧ decode cX10_puts 18 = .ok (.sipush 255, 3) ∧ decode cX10_puts 21 = .ok (.iand, 1) ∧ decode cX10_puts 22 = .ok (.iastore, 1) ∧ decode cX10_puts 23 = .ok (.aload_n 0, 1) ∧ decode cX10_puts 24 = .ok (.aload_n 0, 1) ∧ decode cX10_puts 25 = .ok (.getfield 185, 3) ∧ decode cX10_puts 28 = .ok (.iconst 1, 1) ∧ decode cX10_puts 29 = .ok (.iadd, 1) ∧ decode cX10_puts 30 = .ok (.putfield 185, 3) ∧ decode cX10_puts 33 = .ok (.iinc 2 (-8), 3) ∧ decode cX10_puts 36 = .ok (.goto (-33), 3) ∧ decode cX10_puts 39 = .ok (.return_, 1) ∧ True := dqC_ok (c := cX10_puts) [(0, 2, some (.bipush 24)), (2, 1, some (.istore_n 2)), (3, 1, some (.iload_n 2)), (4, 3, some (.ifCond .lt 35)), (7, 1, some (.aload_n 0)), (8, 3, some (.getfield 53)), (11, 1, some (.aload_n 0)), (12, 3, some (.getfield 185)), (15, 1, some (.iload_n 1)), (16, 1, some (.iload_n 2)), (17, 1, some (.ishr)), (18, 3, some (.sipush 255)), (21, 1, some (.iand)), (22, 1, some (.iastore)), (23, 1, some (.aload_n 0)), (24, 1, some (.aload_n 0)), (25, 3, some (.getfield 185)), (28, 1, some (.iconst 1)), (29, 1, some (.iadd)), (30, 3, some (.putfield 185)), (33, 3, some (.iinc 2 (-8))), (36, 3, some (.goto (-33))), (39, 1, some (.return_))] _ 0 rfl (by decide +kernel)
theorem dX10_puts_0 : decode cX10_puts 0 = .ok (.bipush 24, 2) := dq_g288.1
theorem dX10_puts_2 : decode cX10_puts 2 = .ok (.istore_n 2, 1) := dq_g288.2.1
theorem dX10_puts_3 : decode cX10_puts 3 = .ok (.iload_n 2, 1) := dq_g288.2.2.1
theorem dX10_puts_4 : decode cX10_puts 4 = .ok (.ifCond .lt 35, 3) := dq_g288.2.2.2.1
theorem dX10_puts_7 : decode cX10_puts 7 = .ok (.aload_n 0, 1) := dq_g288.2.2.2.2.1
theorem dX10_puts_8 : decode cX10_puts 8 = .ok (.getfield 53, 3) := dq_g288.2.2.2.2.2.1
theorem dX10_puts_11 : decode cX10_puts 11 = .ok (.aload_n 0, 1) := dq_g288.2.2.2.2.2.2.1
theorem dX10_puts_12 : decode cX10_puts 12 = .ok (.getfield 185, 3) := dq_g288.2.2.2.2.2.2.2.1
theorem dX10_puts_15 : decode cX10_puts 15 = .ok (.iload_n 1, 1) := dq_g288.2.2.2.2.2.2.2.2.1
theorem dX10_puts_16 : decode cX10_puts 16 = .ok (.iload_n 2, 1) := dq_g288.2.2.2.2.2.2.2.2.2.1
theorem dX10_puts_17 : decode cX10_puts 17 = .ok (.ishr, 1) := dq_g288.2.2.2.2.2.2.2.2.2.2.1
theorem dX10_puts_18 : decode cX10_puts 18 = .ok (.sipush 255, 3) := dq_g288.2.2.2.2.2.2.2.2.2.2.2.1
theorem dX10_puts_21 : decode cX10_puts 21 = .ok (.iand, 1) := dq_g288.2.2.2.2.2.2.2.2.2.2.2.2.1
theorem dX10_puts_22 : decode cX10_puts 22 = .ok (.iastore, 1) := dq_g288.2.2.2.2.2.2.2.2.2.2.2.2.2.1
theorem dX10_puts_23 : decode cX10_puts 23 = .ok (.aload_n 0, 1) := dq_g288.2.2.2.2.2.2.2.2.2.2.2.2.2.2.1
theorem dX10_puts_24 : decode cX10_puts 24 = .ok (.aload_n 0, 1) := dq_g288.2.2.2.2.2.2.2.2.2.2.2.2.2.2.2.1
theorem dX10_puts_25 : decode cX10_puts 25 = .ok (.getfield 185, 3) := dq_g288.2.2.2.2.2.2.2.2.2.2.2.2.2.2.2.2.1
theorem dX10_puts_28 : decode cX10_puts 28 = .ok (.iconst 1, 1) := dq_g288.2.2.2.2.2.2.2.2.2.2.2.2.2.2.2.2.2.1
theorem dX10_puts_29 : decode cX10_puts 29 = .ok (.iadd, 1) := dq_g288.2.2.2.2.2.2.2.2.2.2.2.2.2.2.2.2.2.2.1
theorem dX10_puts_30 : decode cX10_puts 30 = .ok (.putfield 185, 3) := dq_g288.2.2.2.2.2.2.2.2.2.2.2.2.2.2.2.2.2.2.2.1
theorem dX10_puts_33 : decode cX10_puts 33 = .ok (.iinc 2 (-8), 3) := dq_g288.2.2.2.2.2.2.2.2.2.2.2.2.2.2.2.2.2.2.2.2.1
theorem dX10_puts_36 : decode cX10_puts 36 = .ok (.goto (-33), 3) := dq_g288.2.2.2.2.2.2.2.2.2.2.2.2.2.2.2.2.2.2.2.2.2.1
theorem dX10_puts_39 : decode cX10_puts 39 = .ok (.return_, 1) := dq_g288.2.2.2.2.2.2.2.2.2.2.2.2.2.2.2.2.2.2.2.2.2.2.1
theorem dq_g289 : decode cX10_feed 0 = .ok (.aload_n 0, 1) ∧ decode cX10_feed 1 = .ok (.iconst 0, 1) ∧ decode cX10_feed 2 = .ok (.putfield 167, 3) ∧ decode cX10_feed 5 = .ok (.aload_n 0, 1) ∧ decode cX10_feed 6 = .ok (.getfield 185, 3) ∧ decode cX10_feed 9 = .ok (.sipush 480, 3) ∧ decode cX10_feed 12 = .ok (.if_icmp .le 5, 3) ∧ decode cX10_feed 15 = .ok (.iconst (-1), 1) ∧ decode cX10_feed 16 = .ok (.ireturn, 1) ∧ decode cX10_feed 17 = .ok (.aload_n 0, 1) ∧ decode cX10_feed 18 = .ok (.iload_n 1, 1) ∧ decode cX10_feed 19 = .ok (.invokevirtual 188, 3) ∧ decode cX10_feed 22 = .ok (.aload_n 0, 1) ∧ decode cX10_feed 23 = .ok (.iload_n 2, 1) ∧ decode cX10_feed 24 = .ok (.invokevirtual 188, 3) ∧ decode cX10_feed 27 = .ok (.aload_n 0, 1) ∧ decode cX10_feed 28 = .ok (.iload_n 3, 1) ∧ decode cX10_feed 29 = .ok (.invokevirtual 188, 3) ∧ decode cX10_feed 32 = .ok (.aload_n 0, 1) ∧ decode cX10_feed 33 = .ok (.iload 4, 2) ∧ decode cX10_feed 35 = .ok (.invokevirtual 188, 3) ∧ decode cX10_feed 38 = .ok (.aload_n 0, 1) ∧ decode cX10_feed 39 = .ok (.iload 5, 2) ∧ decode cX10_feed 41 = .ok (.invokevirtual 188, 3) ∧ decode cX10_feed 44 = .ok (.aload_n 0, 1) ∧ decode cX10_feed 45 = .ok (.getfield 185, 3) ∧ decode cX10_feed 48 = .ok (.ireturn, 1) ∧ True := dqC_ok (c := cX10_feed) [(0, 1, some (.aload_n 0)), (1, 1, some (.iconst 0)), (2, 3, some (.putfield 167)), (5, 1, some (.aload_n 0)), (6, 3, some (.getfield 185)), (9, 3, some (.sipush 480)), (12, 3, some (.if_icmp .le 5)), (15, 1, some (.iconst (-1))), (16, 1, some (.ireturn)), (17, 1, some (.aload_n 0)), (18, 1, some (.iload_n 1)), (19, 3, some (.invokevirtual 188)), (22, 1, some (.aload_n 0)), (23, 1, some (.iload_n 2)), (24, 3, some (.invokevirtual 188)), (27, 1, some (.aload_n 0)), (28, 1, some (.iload_n 3)), (29, 3, some (.invokevirtual 188)), (32, 1, some (.aload_n 0)), (33, 2, some (.iload 4)), (35, 3, some (.invokevirtual 188)), (38, 1, some (.aload_n 0)), (39, 2, some (.iload 5)), (41, 3, some (.invokevirtual 188)), (44, 1, some (.aload_n 0)), (45, 3, some (.getfield 185)), (48, 1, some (.ireturn))] _ 0 rfl (by decide +kernel)
theorem dX10_feed_0 : decode cX10_feed 0 = .ok (.aload_n 0, 1) := dq_g289.1
theorem dX10_feed_1 : decode cX10_feed 1 = .ok (.iconst 0, 1) := dq_g289.2.1
theorem dX10_feed_2 : decode cX10_feed 2 = .ok (.putfield 167, 3) := dq_g289.2.2.1
theorem dX10_feed_5 : decode cX10_feed 5 = .ok (.aload_n 0, 1) := dq_g289.2.2.2.1
theorem dX10_feed_6 : decode cX10_feed 6 = .ok (.getfield 185, 3) := dq_g289.2.2.2.2.1
theorem dX10_feed_9 : decode cX10_feed 9 = .ok (.sipush 480, 3) := dq_g289.2.2.2.2.2.1
theorem dX10_feed_12 : decode cX10_feed 12 = .ok (.if_icmp .le 5, 3) := dq_g289.2.2.2.2.2.2.1
theorem dX10_feed_15 : decode cX10_feed 15 = .ok (.iconst (-1), 1) := dq_g289.2.2.2.2.2.2.2.1
theorem dX10_feed_16 : decode cX10_feed 16 = .ok (.ireturn, 1) := dq_g289.2.2.2.2.2.2.2.2.1
theorem dX10_feed_17 : decode cX10_feed 17 = .ok (.aload_n 0, 1) := dq_g289.2.2.2.2.2.2.2.2.2.1
theorem dX10_feed_18 : decode cX10_feed 18 = .ok (.iload_n 1, 1) := dq_g289.2.2.2.2.2.2.2.2.2.2.1
theorem dX10_feed_19 : decode cX10_feed 19 = .ok (.invokevirtual 188, 3) := dq_g289.2.2.2.2.2.2.2.2.2.2.2.1
theorem dX10_feed_22 : decode cX10_feed 22 = .ok (.aload_n 0, 1) := dq_g289.2.2.2.2.2.2.2.2.2.2.2.2.1
theorem dX10_feed_23 : decode cX10_feed 23 = .ok (.iload_n 2, 1) := dq_g289.2.2.2.2.2.2.2.2.2.2.2.2.2.1
theorem dX10_feed_24 : decode cX10_feed 24 = .ok (.invokevirtual 188, 3) := dq_g289.2.2.2.2.2.2.2.2.2.2.2.2.2.2.1
theorem dX10_feed_27 : decode cX10_feed 27 = .ok (.aload_n 0, 1) := dq_g289.2.2.2.2.2.2.2.2.2.2.2.2.2.2.2.1
theorem dX10_feed_28 : decode cX10_feed 28 = .ok (.iload_n 3, 1) := dq_g289.2.2.2.2.2.2.2.2.2.2.2.2.2.2.2.2.1
theorem dX10_feed_29 : decode cX10_feed 29 = .ok (.invokevirtual 188, 3) := dq_g289.2.2.2.2.2.2.2.2.2.2.2.2.2.2.2.2.2.1
theorem dX10_feed_32 : decode cX10_feed 32 = .ok (.aload_n 0, 1) := dq_g289.2.2.2.2.2.2.2.2.2.2.2.2.2.2.2.2.2.2.1
theorem dX10_feed_33 : decode cX10_feed 33 = .ok (.iload 4, 2) := dq_g289.2.2.2.2.2.2.2.2.2.2.2.2.2.2.2.2.2.2.2.1
theorem dX10_feed_35 : decode cX10_feed 35 = .ok (.invokevirtual 188, 3) := dq_g289.2.2.2.2.2.2.2.2.2.2.2.2.2.2.2.2.2.2.2.2.1
theorem dX10_feed_38 : decode cX10_feed 38 = .ok (.aload_n 0, 1) := dq_g289.2.2.2.2.2.2.2.2.2.2.2.2.2.2.2.2.2.2.2.2.2.1
theorem dX10_feed_39 : decode cX10_feed 39 = .ok (.iload 5, 2) := dq_g289.2.2.2.2.2.2.2.2.2.2.2.2.2.2.2.2.2.2.2.2.2.2.1
theorem dX10_feed_41 : decode cX10_feed 41 = .ok (.invokevirtual 188, 3) := dq_g289.2.2.2.2.2.2.2.2.2.2.2.2.2.2.2.2.2.2.2.2.2.2.2.1
theorem dX10_feed_44 : decode cX10_feed 44 = .ok (.aload_n 0, 1) := dq_g289.2.2.2.2.2.2.2.2.2.2.2.2.2.2.2.2.2.2.2.2.2.2.2.2.1
theorem dX10_feed_45 : decode cX10_feed 45 = .ok (.getfield 185, 3) := dq_g289.2.2.2.2.2.2.2.2.2.2.2.2.2.2.2.2.2.2.2.2.2.2.2.2.2.1
theorem dX10_feed_48 : decode cX10_feed 48 = .ok (.ireturn, 1) := dq_g289.2.2.2.2.2.2.2.2.2.2.2.2.2.2.2.2.2.2.2.2.2.2.2.2.2.2.1
theorem dq_g290 : decode cX10_end 0 = .ok (.aload_n 0, 1) ∧ decode cX10_end 1 = .ok (.iconst 0, 1) ∧ decode cX10_end 2 = .ok (.putfield 167, 3) ∧ decode cX10_end 5 = .ok (.aload_n 0, 1) ∧ decode cX10_end 6 = .ok (.iload_n 1, 1) ∧ decode cX10_end 7 = .ok (.iconst 0, 1) ∧ decode cX10_end 8 = .ok (.aload_n 0, 1) ∧ decode cX10_end 9 = .ok (.getfield 185, 3) ∧ decode cX10_end 12 = .ok (.invokevirtual 177, 3) ∧ decode cX10_end 15 = .ok (.ifCond .ne 5, 3) ∧ decode cX10_end 18 = .ok (.iconst 0, 1) ∧ decode cX10_end 19 = .ok (.ireturn, 1) ∧ decode cX10_end 20 = .ok (.aload_n 0, 1) ∧ decode cX10_end 21 = .ok (.iload_n 1, 1) ∧ decode cX10_end 22 = .ok (.putfield 185, 3) ∧ decode cX10_end 25 = .ok (.iconst 1, 1) ∧ decode cX10_end 26 = .ok (.ireturn, 1) ∧ True := dqC_ok (c := cX10_end) [(0, 1, some (.aload_n 0)), (1, 1, some (.iconst 0)), (2, 3, some (.putfield 167)), (5, 1, some (.aload_n 0)), (6, 1, some (.iload_n 1)), (7, 1, some (.iconst 0)), (8, 1, some (.aload_n 0)), (9, 3, some (.getfield 185)), (12, 3, some (.invokevirtual 177)), (15, 3, some (.ifCond .ne 5)), (18, 1, some (.iconst 0)), (19, 1, some (.ireturn)), (20, 1, some (.aload_n 0)), (21, 1, some (.iload_n 1)), (22, 3, some (.putfield 185)), (25, 1, some (.iconst 1)), (26, 1, some (.ireturn))] _ 0 rfl (by decide +kernel)
theorem dX10_end_0 : decode cX10_end 0 = .ok (.aload_n 0, 1) := dq_g290.1
theorem dX10_end_1 : decode cX10_end 1 = .ok (.iconst 0, 1) := dq_g290.2.1
theorem dX10_end_2 : decode cX10_end 2 = .ok (.putfield 167, 3) := dq_g290.2.2.1
theorem dX10_end_5 : decode cX10_end 5 = .ok (.aload_n 0, 1) := dq_g290.2.2.2.1
theorem dX10_end_6 : decode cX10_end 6 = .ok (.iload_n 1, 1) := dq_g290.2.2.2.2.1
theorem dX10_end_7 : decode cX10_end 7 = .ok (.iconst 0, 1) := dq_g290.2.2.2.2.2.1
theorem dX10_end_8 : decode cX10_end 8 = .ok (.aload_n 0, 1) := dq_g290.2.2.2.2.2.2.1
theorem dX10_end_9 : decode cX10_end 9 = .ok (.getfield 185, 3) := dq_g290.2.2.2.2.2.2.2.1
theorem dX10_end_12 : decode cX10_end 12 = .ok (.invokevirtual 177, 3) := dq_g290.2.2.2.2.2.2.2.2.1
theorem dX10_end_15 : decode cX10_end 15 = .ok (.ifCond .ne 5, 3) := dq_g290.2.2.2.2.2.2.2.2.2.1
theorem dX10_end_18 : decode cX10_end 18 = .ok (.iconst 0, 1) := dq_g290.2.2.2.2.2.2.2.2.2.2.1
theorem dX10_end_19 : decode cX10_end 19 = .ok (.ireturn, 1) := dq_g290.2.2.2.2.2.2.2.2.2.2.2.1
theorem dX10_end_20 : decode cX10_end 20 = .ok (.aload_n 0, 1) := dq_g290.2.2.2.2.2.2.2.2.2.2.2.2.1
theorem dX10_end_21 : decode cX10_end 21 = .ok (.iload_n 1, 1) := dq_g290.2.2.2.2.2.2.2.2.2.2.2.2.2.1
theorem dX10_end_22 : decode cX10_end 22 = .ok (.putfield 185, 3) := dq_g290.2.2.2.2.2.2.2.2.2.2.2.2.2.2.1
theorem dX10_end_25 : decode cX10_end 25 = .ok (.iconst 1, 1) := dq_g290.2.2.2.2.2.2.2.2.2.2.2.2.2.2.2.1
theorem dX10_end_26 : decode cX10_end 26 = .ok (.ireturn, 1) := dq_g290.2.2.2.2.2.2.2.2.2.2.2.2.2.2.2.2.1
theorem dq_g291 : decode cX10_raw 0 = .ok (.iload_n 1, 1) ∧ decode cX10_raw 1 = .ok (.aload_n 0, 1) ∧ decode cX10_raw 2 = .ok (.getfield 185, 3) ∧ decode cX10_raw 5 = .ok (.if_icmp .ge 12, 3) ∧ decode cX10_raw 8 = .ok (.aload_n 0, 1) ∧ decode cX10_raw 9 = .ok (.getfield 53, 3) ∧ decode cX10_raw 12 = .ok (.iload_n 1, 1) ∧ decode cX10_raw 13 = .ok (.iaload, 1) ∧ decode cX10_raw 14 = .ok (.goto 4, 3) ∧ decode cX10_raw 17 = .ok (.iconst (-1), 1) ∧ decode cX10_raw 18 = .ok (.ireturn, 1) ∧ True := dqC_ok (c := cX10_raw) [(0, 1, some (.iload_n 1)), (1, 1, some (.aload_n 0)), (2, 3, some (.getfield 185)), (5, 3, some (.if_icmp .ge 12)), (8, 1, some (.aload_n 0)), (9, 3, some (.getfield 53)), (12, 1, some (.iload_n 1)), (13, 1, some (.iaload)), (14, 3, some (.goto 4)), (17, 1, some (.iconst (-1))), (18, 1, some (.ireturn))] _ 0 rfl (by decide +kernel)
theorem dX10_raw_0 : decode cX10_raw 0 = .ok (.iload_n 1, 1) := dq_g291.1
theorem dX10_raw_1 : decode cX10_raw 1 = .ok (.aload_n 0, 1) := dq_g291.2.1
theorem dX10_raw_2 : decode cX10_raw 2 = .ok (.getfield 185, 3) := dq_g291.2.2.1
theorem dX10_raw_5 : decode cX10_raw 5 = .ok (.if_icmp .ge 12, 3) := dq_g291.2.2.2.1
theorem dX10_raw_8 : decode cX10_raw 8 = .ok (.aload_n 0, 1) := dq_g291.2.2.2.2.1
theorem dX10_raw_9 : decode cX10_raw 9 = .ok (.getfield 53, 3) := dq_g291.2.2.2.2.2.1
theorem dX10_raw_12 : decode cX10_raw 12 = .ok (.iload_n 1, 1) := dq_g291.2.2.2.2.2.2.1
theorem dX10_raw_13 : decode cX10_raw 13 = .ok (.iaload, 1) := dq_g291.2.2.2.2.2.2.2.1
theorem dX10_raw_14 : decode cX10_raw 14 = .ok (.goto 4, 3) := dq_g291.2.2.2.2.2.2.2.2.1
theorem dX10_raw_17 : decode cX10_raw 17 = .ok (.iconst (-1), 1) := dq_g291.2.2.2.2.2.2.2.2.2.1
theorem dX10_raw_18 : decode cX10_raw 18 = .ok (.ireturn, 1) := dq_g291.2.2.2.2.2.2.2.2.2.2.1
theorem dq_g292 : decode cX10_isLetter 0 = .ok (.aload_n 0, 1) ∧ decode cX10_isLetter 1 = .ok (.iload_n 1, 1) ∧ decode cX10_isLetter 2 = .ok (.bipush 97, 2) ∧ decode cX10_isLetter 4 = .ok (.bipush 122, 2) ∧ decode cX10_isLetter 6 = .ok (.invokevirtual 177, 3) ∧ decode cX10_isLetter 9 = .ok (.ifCond .ne 15, 3) ∧ decode cX10_isLetter 12 = .ok (.aload_n 0, 1) ∧ decode cX10_isLetter 13 = .ok (.iload_n 1, 1) ∧ decode cX10_isLetter 14 = .ok (.bipush 65, 2) ∧ decode cX10_isLetter 16 = .ok (.bipush 90, 2) ∧ decode cX10_isLetter 18 = .ok (.invokevirtual 177, 3) ∧ decode cX10_isLetter 21 = .ok (.ifCond .eq 7, 3) ∧ decode cX10_isLetter 24 = .ok (.iconst 1, 1) ∧ decode cX10_isLetter 25 = .ok (.goto 4, 3) ∧ decode cX10_isLetter 28 = .ok (.iconst 0, 1) ∧ decode cX10_isLetter 29 = .ok (.ireturn, 1) ∧ True := dqC_ok (c := cX10_isLetter) [(0, 1, some (.aload_n 0)), (1, 1, some (.iload_n 1)), (2, 2, some (.bipush 97)), (4, 2, some (.bipush 122)), (6, 3, some (.invokevirtual 177)), (9, 3, some (.ifCond .ne 15)), (12, 1, some (.aload_n 0)), (13, 1, some (.iload_n 1)), (14, 2, some (.bipush 65)), (16, 2, some (.bipush 90)), (18, 3, some (.invokevirtual 177)), (21, 3, some (.ifCond .eq 7)), (24, 1, some (.iconst 1)), (25, 3, some (.goto 4)), (28, 1, some (.iconst 0)), (29, 1, some (.ireturn))] _ 0 rfl (by decide +kernel)
theorem dX10_isLetter_0 : decode cX10_isLetter 0 = .ok (.aload_n 0, 1) := dq_g292.1
theorem dX10_isLetter_1 : decode cX10_isLetter 1 = .ok (.iload_n 1, 1) := dq_g292.2.1
theorem dX10_isLetter_2 : decode cX10_isLetter 2 = .ok (.bipush 97, 2) := dq_g292.2.2.1
theorem dX10_isLetter_4 : decode cX10_isLetter 4 = .ok (.bipush 122, 2) := dq_g292.2.2.2.1
theorem dX10_isLetter_6 : decode cX10_isLetter 6 = .ok (.invokevirtual 177, 3) := dq_g292.2.2.2.2.1
theorem dX10_isLetter_9 : decode cX10_isLetter 9 = .ok (.ifCond .ne 15, 3) := dq_g292.2.2.2.2.2.1
theorem dX10_isLetter_12 : decode cX10_isLetter 12 = .ok (.aload_n 0, 1) := dq_g292.2.2.2.2.2.2.1
theorem dX10_isLetter_13 : decode cX10_isLetter 13 = .ok (.iload_n 1, 1) := dq_g292.2.2.2.2.2.2.2.1
theorem dX10_isLetter_14 : decode cX10_isLetter 14 = .ok (.bipush 65, 2) := dq_g292.2.2.2.2.2.2.2.2.1
theorem dX10_isLetter_16 : decode cX10_isLetter 16 = .ok (.bipush 90, 2) := dq_g292.2.2.2.2.2.2.2.2.2.1
theorem dX10_isLetter_18 : decode cX10_isLetter 18 = .ok (.invokevirtual 177, 3) := dq_g292.2.2.2.2.2.2.2.2.2.2.1
theorem dX10_isLetter_21 : decode cX10_isLetter 21 = .ok (.ifCond .eq 7, 3) := dq_g292.2.2.2.2.2.2.2.2.2.2.2.1
theorem dX10_isLetter_24 : decode cX10_isLetter 24 = .ok (.iconst 1, 1) := dq_g292.2.2.2.2.2.2.2.2.2.2.2.2.1
theorem dX10_isLetter_25 : decode cX10_isLetter 25 = .ok (.goto 4, 3) := dq_g292.2.2.2.2.2.2.2.2.2.2.2.2.2.1
theorem dX10_isLetter_28 : decode cX10_isLetter 28 = .ok (.iconst 0, 1) := dq_g292.2.2.2.2.2.2.2.2.2.2.2.2.2.2.1
theorem dX10_isLetter_29 : decode cX10_isLetter 29 = .ok (.ireturn, 1) := dq_g292.2.2.2.2.2.2.2.2.2.2.2.2.2.2.2.1
theorem dq_g293 : decode cX10_isDigit 0 = .ok (.aload_n 0, 1) ∧ decode cX10_isDigit 1 = .ok (.iload_n 1, 1) ∧ decode cX10_isDigit 2 = .ok (.bipush 48, 2) ∧ decode cX10_isDigit 4 = .ok (.bipush 57, 2) ∧ decode cX10_isDigit 6 = .ok (.invokevirtual 177, 3) ∧ decode cX10_isDigit 9 = .ok (.ireturn, 1) ∧ True := dqC_ok (c := cX10_isDigit) [(0, 1, some (.aload_n 0)), (1, 1, some (.iload_n 1)), (2, 2, some (.bipush 48)), (4, 2, some (.bipush 57)), (6, 3, some (.invokevirtual 177)), (9, 1, some (.ireturn))] _ 0 rfl (by decide +kernel)
theorem dX10_isDigit_0 : decode cX10_isDigit 0 = .ok (.aload_n 0, 1) := dq_g293.1
theorem dX10_isDigit_1 : decode cX10_isDigit 1 = .ok (.iload_n 1, 1) := dq_g293.2.1
theorem dX10_isDigit_2 : decode cX10_isDigit 2 = .ok (.bipush 48, 2) := dq_g293.2.2.1
theorem dX10_isDigit_4 : decode cX10_isDigit 4 = .ok (.bipush 57, 2) := dq_g293.2.2.2.1
theorem dX10_isDigit_6 : decode cX10_isDigit 6 = .ok (.invokevirtual 177, 3) := dq_g293.2.2.2.2.1
theorem dX10_isDigit_9 : decode cX10_isDigit 9 = .ok (.ireturn, 1) := dq_g293.2.2.2.2.2.1
theorem dq_g294 : decode cX10_isMarkSign 0 = .ok (.iload_n 1, 1) ∧ decode cX10_isMarkSign 1 = .ok (.bipush 59, 2) ∧ decode cX10_isMarkSign 3 = .ok (.if_icmp .eq 57, 3) ∧ decode cX10_isMarkSign 6 = .ok (.iload_n 1, 1) ∧ decode cX10_isMarkSign 7 = .ok (.bipush 43, 2) ∧ decode cX10_isMarkSign 9 = .ok (.if_icmp .eq 51, 3) ∧ decode cX10_isMarkSign 12 = .ok (.iload_n 1, 1) ∧ decode cX10_isMarkSign 13 = .ok (.bipush 45, 2) ∧ decode cX10_isMarkSign 15 = .ok (.if_icmp .eq 45, 3) ∧ decode cX10_isMarkSign 18 = .ok (.iload_n 1, 1) ∧ decode cX10_isMarkSign 19 = .ok (.bipush 42, 2) ∧ decode cX10_isMarkSign 21 = .ok (.if_icmp .eq 39, 3) ∧ decode cX10_isMarkSign 24 = .ok (.iload_n 1, 1) ∧ decode cX10_isMarkSign 25 = .ok (.bipush 47, 2) ∧ decode cX10_isMarkSign 27 = .ok (.if_icmp .eq 33, 3) ∧ decode cX10_isMarkSign 30 = .ok (.iload_n 1, 1) ∧ decode cX10_isMarkSign 31 = .ok (.bipush 40, 2) ∧ decode cX10_isMarkSign 33 = .ok (.if_icmp .eq 27, 3) ∧ decode cX10_isMarkSign 36 = .ok (.iload_n 1, 1) ∧ decode cX10_isMarkSign 37 = .ok (.bipush 41, 2) ∧ decode cX10_isMarkSign 39 = .ok (.if_icmp .eq 21, 3) ∧ decode cX10_isMarkSign 42 = .ok (.iload_n 1, 1) ∧ decode cX10_isMarkSign 43 = .ok (.bipush 60, 2) ∧ decode cX10_isMarkSign 45 = .ok (.if_icmp .eq 15, 3) ∧ decode cX10_isMarkSign 48 = .ok (.iload_n 1, 1) ∧ decode cX10_isMarkSign 49 = .ok (.bipush 61, 2) ∧ decode cX10_isMarkSign 51 = .ok (.if_icmp .eq 9, 3) ∧ decode cX10_isMarkSign 54 = .ok (.iload_n 1, 1) ∧ decode cX10_isMarkSign 55 = .ok (.bipush 62, 2) ∧ decode cX10_isMarkSign 57 = .ok (.if_icmp .ne 7, 3) ∧ True := dqC_ok (c := cX10_isMarkSign) [(0, 1, some (.iload_n 1)), (1, 2, some (.bipush 59)), (3, 3, some (.if_icmp .eq 57)), (6, 1, some (.iload_n 1)), (7, 2, some (.bipush 43)), (9, 3, some (.if_icmp .eq 51)), (12, 1, some (.iload_n 1)), (13, 2, some (.bipush 45)), (15, 3, some (.if_icmp .eq 45)), (18, 1, some (.iload_n 1)), (19, 2, some (.bipush 42)), (21, 3, some (.if_icmp .eq 39)), (24, 1, some (.iload_n 1)), (25, 2, some (.bipush 47)), (27, 3, some (.if_icmp .eq 33)), (30, 1, some (.iload_n 1)), (31, 2, some (.bipush 40)), (33, 3, some (.if_icmp .eq 27)), (36, 1, some (.iload_n 1)), (37, 2, some (.bipush 41)), (39, 3, some (.if_icmp .eq 21)), (42, 1, some (.iload_n 1)), (43, 2, some (.bipush 60)), (45, 3, some (.if_icmp .eq 15)), (48, 1, some (.iload_n 1)), (49, 2, some (.bipush 61)), (51, 3, some (.if_icmp .eq 9)), (54, 1, some (.iload_n 1)), (55, 2, some (.bipush 62)), (57, 3, some (.if_icmp .ne 7))] _ 0 rfl (by decide +kernel)
theorem dX10_isMarkSign_0 : decode cX10_isMarkSign 0 = .ok (.iload_n 1, 1) := dq_g294.1
theorem dX10_isMarkSign_1 : decode cX10_isMarkSign 1 = .ok (.bipush 59, 2) := dq_g294.2.1
theorem dX10_isMarkSign_3 : decode cX10_isMarkSign 3 = .ok (.if_icmp .eq 57, 3) := dq_g294.2.2.1
theorem dX10_isMarkSign_6 : decode cX10_isMarkSign 6 = .ok (.iload_n 1, 1) := dq_g294.2.2.2.1
theorem dX10_isMarkSign_7 : decode cX10_isMarkSign 7 = .ok (.bipush 43, 2) := dq_g294.2.2.2.2.1
theorem dX10_isMarkSign_9 : decode cX10_isMarkSign 9 = .ok (.if_icmp .eq 51, 3) := dq_g294.2.2.2.2.2.1
theorem dX10_isMarkSign_12 : decode cX10_isMarkSign 12 = .ok (.iload_n 1, 1) := dq_g294.2.2.2.2.2.2.1
theorem dX10_isMarkSign_13 : decode cX10_isMarkSign 13 = .ok (.bipush 45, 2) := dq_g294.2.2.2.2.2.2.2.1
theorem dX10_isMarkSign_15 : decode cX10_isMarkSign 15 = .ok (.if_icmp .eq 45, 3) := dq_g294.2.2.2.2.2.2.2.2.1
theorem dX10_isMarkSign_18 : decode cX10_isMarkSign 18 = .ok (.iload_n 1, 1) := dq_g294.2.2.2.2.2.2.2.2.2.1
theorem dX10_isMarkSign_19 : decode cX10_isMarkSign 19 = .ok (.bipush 42, 2) := dq_g294.2.2.2.2.2.2.2.2.2.2.1
theorem dX10_isMarkSign_21 : decode cX10_isMarkSign 21 = .ok (.if_icmp .eq 39, 3) := dq_g294.2.2.2.2.2.2.2.2.2.2.2.1
theorem dX10_isMarkSign_24 : decode cX10_isMarkSign 24 = .ok (.iload_n 1, 1) := dq_g294.2.2.2.2.2.2.2.2.2.2.2.2.1
theorem dX10_isMarkSign_25 : decode cX10_isMarkSign 25 = .ok (.bipush 47, 2) := dq_g294.2.2.2.2.2.2.2.2.2.2.2.2.2.1
theorem dX10_isMarkSign_27 : decode cX10_isMarkSign 27 = .ok (.if_icmp .eq 33, 3) := dq_g294.2.2.2.2.2.2.2.2.2.2.2.2.2.2.1
theorem dX10_isMarkSign_30 : decode cX10_isMarkSign 30 = .ok (.iload_n 1, 1) := dq_g294.2.2.2.2.2.2.2.2.2.2.2.2.2.2.2.1
theorem dX10_isMarkSign_31 : decode cX10_isMarkSign 31 = .ok (.bipush 40, 2) := dq_g294.2.2.2.2.2.2.2.2.2.2.2.2.2.2.2.2.1
theorem dX10_isMarkSign_33 : decode cX10_isMarkSign 33 = .ok (.if_icmp .eq 27, 3) := dq_g294.2.2.2.2.2.2.2.2.2.2.2.2.2.2.2.2.2.1
theorem dX10_isMarkSign_36 : decode cX10_isMarkSign 36 = .ok (.iload_n 1, 1) := dq_g294.2.2.2.2.2.2.2.2.2.2.2.2.2.2.2.2.2.2.1
theorem dX10_isMarkSign_37 : decode cX10_isMarkSign 37 = .ok (.bipush 41, 2) := dq_g294.2.2.2.2.2.2.2.2.2.2.2.2.2.2.2.2.2.2.2.1
theorem dX10_isMarkSign_39 : decode cX10_isMarkSign 39 = .ok (.if_icmp .eq 21, 3) := dq_g294.2.2.2.2.2.2.2.2.2.2.2.2.2.2.2.2.2.2.2.2.1
theorem dX10_isMarkSign_42 : decode cX10_isMarkSign 42 = .ok (.iload_n 1, 1) := dq_g294.2.2.2.2.2.2.2.2.2.2.2.2.2.2.2.2.2.2.2.2.2.1
theorem dX10_isMarkSign_43 : decode cX10_isMarkSign 43 = .ok (.bipush 60, 2) := dq_g294.2.2.2.2.2.2.2.2.2.2.2.2.2.2.2.2.2.2.2.2.2.2.1
theorem dX10_isMarkSign_45 : decode cX10_isMarkSign 45 = .ok (.if_icmp .eq 15, 3) := dq_g294.2.2.2.2.2.2.2.2.2.2.2.2.2.2.2.2.2.2.2.2.2.2.2.1
theorem dX10_isMarkSign_48 : decode cX10_isMarkSign 48 = .ok (.iload_n 1, 1) := dq_g294.2.2.2.2.2.2.2.2.2.2.2.2.2.2.2.2.2.2.2.2.2.2.2.2.1
theorem dX10_isMarkSign_49 : decode cX10_isMarkSign 49 = .ok (.bipush 61, 2) := dq_g294.2.2.2.2.2.2.2.2.2.2.2.2.2.2.2.2.2.2.2.2.2.2.2.2.2.1
theorem dX10_isMarkSign_51 : decode cX10_isMarkSign 51 = .ok (.if_icmp .eq 9, 3) := dq_g294.2.2.2.2.2.2.2.2.2.2.2.2.2.2.2.2.2.2.2.2.2.2.2.2.2.2.1
theorem dX10_isMarkSign_54 : decode cX10_isMarkSign 54 = .ok (.iload_n 1, 1) := dq_g294.2.2.2.2.2.2.2.2.2.2.2.2.2.2.2.2.2.2.2.2.2.2.2.2.2.2.2.1
theorem dX10_isMarkSign_55 : decode cX10_isMarkSign 55 = .ok (.bipush 62, 2) := dq_g294.2.2.2.2.2.2.2.2.2.2.2.2.2.2.2.2.2.2.2.2.2.2.2.2.2.2.2.2.1
theorem dX10_isMarkSign_57 : decode cX10_isMarkSign 57 = .ok (.if_icmp .ne 7, 3) := dq_g294.2.2.2.2.2.2.2.2.2.2.2.2.2.2.2.2.2.2.2.2.2.2.2.2.2.2.2.2.2.1
theorem dq_g295 : decode cX10_isMarkSign 60 = .ok (.iconst 1, 1) ∧ decode cX10_isMarkSign 61 = .ok (.goto 4, 3) ∧ decode cX10_isMarkSign 64 = .ok (.iconst 0, 1) ∧ decode cX10_isMarkSign 65 = .ok (.ireturn, 1) ∧ True := dqC_ok (c := cX10_isMarkSign) [(60, 1, some (.iconst 1)), (61, 3, some (.goto 4)), (64, 1, some (.iconst 0)), (65, 1, some (.ireturn))] _ 60 rfl (by decide +kernel)
theorem dX10_isMarkSign_60 : decode cX10_isMarkSign 60 = .ok (.iconst 1, 1) := dq_g295.1
theorem dX10_isMarkSign_61 : decode cX10_isMarkSign 61 = .ok (.goto 4, 3) := dq_g295.2.1
theorem dX10_isMarkSign_64 : decode cX10_isMarkSign 64 = .ok (.iconst 0, 1) := dq_g295.2.2.1
theorem dX10_isMarkSign_65 : decode cX10_isMarkSign 65 = .ok (.ireturn, 1) := dq_g295.2.2.2.1
theorem dq_g296 : decode cX10_wordAt 0 = .ok (.iconst (-1), 1) ∧ decode cX10_wordAt 1 = .ok (.istore_n 3, 1) ∧ decode cX10_wordAt 2 = .ok (.iconst 0, 1) ∧ decode cX10_wordAt 3 = .ok (.istore 4, 2) ∧ decode cX10_wordAt 5 = .ok (.iload 4, 2) ∧ decode cX10_wordAt 7 = .ok (.bipush 114, 2) ∧ decode cX10_wordAt 9 = .ok (.if_icmp .ge 108, 3) ∧ decode cX10_wordAt 12 = .ok (.iconst 0, 1) ∧ decode cX10_wordAt 13 = .ok (.istore 5, 2) ∧ decode cX10_wordAt 15 = .ok (.iload_n 3, 1) ∧ decode cX10_wordAt 16 = .ok (.iconst 1, 1) ∧ decode cX10_wordAt 17 = .ok (.iadd, 1) ∧ decode cX10_wordAt 18 = .ok (.istore_n 3, 1) ∧ decode cX10_wordAt 19 = .ok (.iload_n 1, 1) ∧ decode cX10_wordAt 20 = .ok (.iload 5, 2) ∧ decode cX10_wordAt 22 = .ok (.iadd, 1) ∧ decode cX10_wordAt 23 = .ok (.iload_n 2, 1) ∧ decode cX10_wordAt 24 = .ok (.if_icmp .ge 36, 3) ∧ decode cX10_wordAt 27 = .ok (.aload_n 0, 1) ∧ decode cX10_wordAt 28 = .ok (.getfield 56, 3) ∧ decode cX10_wordAt 31 = .ok (.iload 4, 2) ∧ decode cX10_wordAt 33 = .ok (.iconst 1, 1) ∧ decode cX10_wordAt 34 = .ok (.iadd, 1) ∧ decode cX10_wordAt 35 = .ok (.iload 5, 2) ∧ decode cX10_wordAt 37 = .ok (.iadd, 1) ∧ decode cX10_wordAt 38 = .ok (.iaload, 1) ∧ decode cX10_wordAt 39 = .ok (.aload_n 0, 1) ∧ decode cX10_wordAt 40 = .ok (.getfield 53, 3) ∧ decode cX10_wordAt 43 = .ok (.iload_n 1, 1) ∧ decode cX10_wordAt 44 = .ok (.iload 5, 2) ∧ True := dqC_ok (c := cX10_wordAt) [(0, 1, some (.iconst (-1))), (1, 1, some (.istore_n 3)), (2, 1, some (.iconst 0)), (3, 2, some (.istore 4)), (5, 2, some (.iload 4)), (7, 2, some (.bipush 114)), (9, 3, some (.if_icmp .ge 108)), (12, 1, some (.iconst 0)), (13, 2, some (.istore 5)), (15, 1, some (.iload_n 3)), (16, 1, some (.iconst 1)), (17, 1, some (.iadd)), (18, 1, some (.istore_n 3)), (19, 1, some (.iload_n 1)), (20, 2, some (.iload 5)), (22, 1, some (.iadd)), (23, 1, some (.iload_n 2)), (24, 3, some (.if_icmp .ge 36)), (27, 1, some (.aload_n 0)), (28, 3, some (.getfield 56)), (31, 2, some (.iload 4)), (33, 1, some (.iconst 1)), (34, 1, some (.iadd)), (35, 2, some (.iload 5)), (37, 1, some (.iadd)), (38, 1, some (.iaload)), (39, 1, some (.aload_n 0)), (40, 3, some (.getfield 53)), (43, 1, some (.iload_n 1)), (44, 2, some (.iload 5))] _ 0 rfl (by decide +kernel)
theorem dX10_wordAt_0 : decode cX10_wordAt 0 = .ok (.iconst (-1), 1) := dq_g296.1
theorem dX10_wordAt_1 : decode cX10_wordAt 1 = .ok (.istore_n 3, 1) := dq_g296.2.1
theorem dX10_wordAt_2 : decode cX10_wordAt 2 = .ok (.iconst 0, 1) := dq_g296.2.2.1
theorem dX10_wordAt_3 : decode cX10_wordAt 3 = .ok (.istore 4, 2) := dq_g296.2.2.2.1
theorem dX10_wordAt_5 : decode cX10_wordAt 5 = .ok (.iload 4, 2) := dq_g296.2.2.2.2.1
theorem dX10_wordAt_7 : decode cX10_wordAt 7 = .ok (.bipush 114, 2) := dq_g296.2.2.2.2.2.1
theorem dX10_wordAt_9 : decode cX10_wordAt 9 = .ok (.if_icmp .ge 108, 3) := dq_g296.2.2.2.2.2.2.1
theorem dX10_wordAt_12 : decode cX10_wordAt 12 = .ok (.iconst 0, 1) := dq_g296.2.2.2.2.2.2.2.1
theorem dX10_wordAt_13 : decode cX10_wordAt 13 = .ok (.istore 5, 2) := dq_g296.2.2.2.2.2.2.2.2.1
theorem dX10_wordAt_15 : decode cX10_wordAt 15 = .ok (.iload_n 3, 1) := dq_g296.2.2.2.2.2.2.2.2.2.1
theorem dX10_wordAt_16 : decode cX10_wordAt 16 = .ok (.iconst 1, 1) := dq_g296.2.2.2.2.2.2.2.2.2.2.1
theorem dX10_wordAt_17 : decode cX10_wordAt 17 = .ok (.iadd, 1) := dq_g296.2.2.2.2.2.2.2.2.2.2.2.1
theorem dX10_wordAt_18 : decode cX10_wordAt 18 = .ok (.istore_n 3, 1) := dq_g296.2.2.2.2.2.2.2.2.2.2.2.2.1
theorem dX10_wordAt_19 : decode cX10_wordAt 19 = .ok (.iload_n 1, 1) := dq_g296.2.2.2.2.2.2.2.2.2.2.2.2.2.1
theorem dX10_wordAt_20 : decode cX10_wordAt 20 = .ok (.iload 5, 2) := dq_g296.2.2.2.2.2.2.2.2.2.2.2.2.2.2.1
theorem dX10_wordAt_22 : decode cX10_wordAt 22 = .ok (.iadd, 1) := dq_g296.2.2.2.2.2.2.2.2.2.2.2.2.2.2.2.1
theorem dX10_wordAt_23 : decode cX10_wordAt 23 = .ok (.iload_n 2, 1) := dq_g296.2.2.2.2.2.2.2.2.2.2.2.2.2.2.2.2.1
theorem dX10_wordAt_24 : decode cX10_wordAt 24 = .ok (.if_icmp .ge 36, 3) := dq_g296.2.2.2.2.2.2.2.2.2.2.2.2.2.2.2.2.2.1
theorem dX10_wordAt_27 : decode cX10_wordAt 27 = .ok (.aload_n 0, 1) := dq_g296.2.2.2.2.2.2.2.2.2.2.2.2.2.2.2.2.2.2.1
theorem dX10_wordAt_28 : decode cX10_wordAt 28 = .ok (.getfield 56, 3) := dq_g296.2.2.2.2.2.2.2.2.2.2.2.2.2.2.2.2.2.2.2.1
theorem dX10_wordAt_31 : decode cX10_wordAt 31 = .ok (.iload 4, 2) := dq_g296.2.2.2.2.2.2.2.2.2.2.2.2.2.2.2.2.2.2.2.2.1
theorem dX10_wordAt_33 : decode cX10_wordAt 33 = .ok (.iconst 1, 1) := dq_g296.2.2.2.2.2.2.2.2.2.2.2.2.2.2.2.2.2.2.2.2.2.1
theorem dX10_wordAt_34 : decode cX10_wordAt 34 = .ok (.iadd, 1) := dq_g296.2.2.2.2.2.2.2.2.2.2.2.2.2.2.2.2.2.2.2.2.2.2.1
theorem dX10_wordAt_35 : decode cX10_wordAt 35 = .ok (.iload 5, 2) := dq_g296.2.2.2.2.2.2.2.2.2.2.2.2.2.2.2.2.2.2.2.2.2.2.2.1
theorem dX10_wordAt_37 : decode cX10_wordAt 37 = .ok (.iadd, 1) := dq_g296.2.2.2.2.2.2.2.2.2.2.2.2.2.2.2.2.2.2.2.2.2.2.2.2.1
theorem dX10_wordAt_38 : decode cX10_wordAt 38 = .ok (.iaload, 1) := dq_g296.2.2.2.2.2.2.2.2.2.2.2.2.2.2.2.2.2.2.2.2.2.2.2.2.2.1
theorem dX10_wordAt_39 : decode cX10_wordAt 39 = .ok (.aload_n 0, 1) := dq_g296.2.2.2.2.2.2.2.2.2.2.2.2.2.2.2.2.2.2.2.2.2.2.2.2.2.2.1
theorem dX10_wordAt_40 : decode cX10_wordAt 40 = .ok (.getfield 53, 3) := dq_g296.2.2.2.2.2.2.2.2.2.2.2.2.2.2.2.2.2.2.2.2.2.2.2.2.2.2.2.1
theorem dX10_wordAt_43 : decode cX10_wordAt 43 = .ok (.iload_n 1, 1) := dq_g296.2.2.2.2.2.2.2.2.2.2.2.2.2.2.2.2.2.2.2.2.2.2.2.2.2.2.2.2.1
theorem dX10_wordAt_44 : decode cX10_wordAt 44 = .ok (.iload 5, 2) := dq_g296.2.2.2.2.2.2.2.2.2.2.2.2.2.2.2.2.2.2.2.2.2.2.2.2.2.2.2.2.2.1
theorem dq_g297 : decode cX10_wordAt 46 = .ok (.iadd, 1) ∧ decode cX10_wordAt 47 = .ok (.iaload, 1) ∧ decode cX10_wordAt 48 = .ok (.if_icmp .ne 12, 3) ∧ decode cX10_wordAt 51 = .ok (.iload 5, 2) ∧ decode cX10_wordAt 53 = .ok (.iconst 1, 1) ∧ decode cX10_wordAt 54 = .ok (.iadd, 1) ∧ decode cX10_wordAt 55 = .ok (.istore 5, 2) ∧ decode cX10_wordAt 57 = .ok (.goto (-38), 3) ∧ decode cX10_wordAt 60 = .ok (.iload_n 1, 1) ∧ decode cX10_wordAt 61 = .ok (.iload 5, 2) ∧ decode cX10_wordAt 63 = .ok (.iadd, 1) ∧ decode cX10_wordAt 64 = .ok (.iload_n 2, 1) ∧ decode cX10_wordAt 65 = .ok (.if_icmp .ne 22, 3) ∧ decode cX10_wordAt 68 = .ok (.aload_n 0, 1) ∧ decode cX10_wordAt 69 = .ok (.getfield 56, 3) ∧ decode cX10_wordAt 72 = .ok (.iload 4, 2) ∧ decode cX10_wordAt 74 = .ok (.iconst 1, 1) ∧ decode cX10_wordAt 75 = .ok (.iadd, 1) ∧ decode cX10_wordAt 76 = .ok (.iload 5, 2) ∧ decode cX10_wordAt 78 = .ok (.iadd, 1) ∧ decode cX10_wordAt 79 = .ok (.iaload, 1) ∧ decode cX10_wordAt 80 = .ok (.bipush 32, 2) ∧ decode cX10_wordAt 82 = .ok (.if_icmp .ne 5, 3) ∧ decode cX10_wordAt 85 = .ok (.iload_n 3, 1) ∧ decode cX10_wordAt 86 = .ok (.ireturn, 1) ∧ decode cX10_wordAt 87 = .ok (.iload 4, 2) ∧ decode cX10_wordAt 89 = .ok (.iconst 1, 1) ∧ decode cX10_wordAt 90 = .ok (.iadd, 1) ∧ decode cX10_wordAt 91 = .ok (.istore 4, 2) ∧ decode cX10_wordAt 93 = .ok (.aload_n 0, 1) ∧ True := dqC_ok (c := cX10_wordAt) [(46, 1, some (.iadd)), (47, 1, some (.iaload)), (48, 3, some (.if_icmp .ne 12)), (51, 2, some (.iload 5)), (53, 1, some (.iconst 1)), (54, 1, some (.iadd)), (55, 2, some (.istore 5)), (57, 3, some (.goto (-38))), (60, 1, some (.iload_n 1)), (61, 2, some (.iload 5)), (63, 1, some (.iadd)), (64, 1, some (.iload_n 2)), (65, 3, some (.if_icmp .ne 22)), (68, 1, some (.aload_n 0)), (69, 3, some (.getfield 56)), (72, 2, some (.iload 4)), (74, 1, some (.iconst 1)), (75, 1, some (.iadd)), (76, 2, some (.iload 5)), (78, 1, some (.iadd)), (79, 1, some (.iaload)), (80, 2, some (.bipush 32)), (82, 3, some (.if_icmp .ne 5)), (85, 1, some (.iload_n 3)), (86, 1, some (.ireturn)), (87, 2, some (.iload 4)), (89, 1, some (.iconst 1)), (90, 1, some (.iadd)), (91, 2, some (.istore 4)), (93, 1, some (.aload_n 0))] _ 46 rfl (by decide +kernel)
theorem dX10_wordAt_46 : decode cX10_wordAt 46 = .ok (.iadd, 1) := dq_g297.1
theorem dX10_wordAt_47 : decode cX10_wordAt 47 = .ok (.iaload, 1) := dq_g297.2.1
theorem dX10_wordAt_48 : decode cX10_wordAt 48 = .ok (.if_icmp .ne 12, 3) := dq_g297.2.2.1
theorem dX10_wordAt_51 : decode cX10_wordAt 51 = .ok (.iload 5, 2) := dq_g297.2.2.2.1
theorem dX10_wordAt_53 : decode cX10_wordAt 53 = .ok (.iconst 1, 1) := dq_g297.2.2.2.2.1
theorem dX10_wordAt_54 : decode cX10_wordAt 54 = .ok (.iadd, 1) := dq_g297.2.2.2.2.2.1
theorem dX10_wordAt_55 : decode cX10_wordAt 55 = .ok (.istore 5, 2) := dq_g297.2.2.2.2.2.2.1
theorem dX10_wordAt_57 : decode cX10_wordAt 57 = .ok (.goto (-38), 3) := dq_g297.2.2.2.2.2.2.2.1
theorem dX10_wordAt_60 : decode cX10_wordAt 60 = .ok (.iload_n 1, 1) := dq_g297.2.2.2.2.2.2.2.2.1
theorem dX10_wordAt_61 : decode cX10_wordAt 61 = .ok (.iload 5, 2) := dq_g297.2.2.2.2.2.2.2.2.2.1
theorem dX10_wordAt_63 : decode cX10_wordAt 63 = .ok (.iadd, 1) := dq_g297.2.2.2.2.2.2.2.2.2.2.1
theorem dX10_wordAt_64 : decode cX10_wordAt 64 = .ok (.iload_n 2, 1) := dq_g297.2.2.2.2.2.2.2.2.2.2.2.1
theorem dX10_wordAt_65 : decode cX10_wordAt 65 = .ok (.if_icmp .ne 22, 3) := dq_g297.2.2.2.2.2.2.2.2.2.2.2.2.1
theorem dX10_wordAt_68 : decode cX10_wordAt 68 = .ok (.aload_n 0, 1) := dq_g297.2.2.2.2.2.2.2.2.2.2.2.2.2.1
theorem dX10_wordAt_69 : decode cX10_wordAt 69 = .ok (.getfield 56, 3) := dq_g297.2.2.2.2.2.2.2.2.2.2.2.2.2.2.1
theorem dX10_wordAt_72 : decode cX10_wordAt 72 = .ok (.iload 4, 2) := dq_g297.2.2.2.2.2.2.2.2.2.2.2.2.2.2.2.1
theorem dX10_wordAt_74 : decode cX10_wordAt 74 = .ok (.iconst 1, 1) := dq_g297.2.2.2.2.2.2.2.2.2.2.2.2.2.2.2.2.1
theorem dX10_wordAt_75 : decode cX10_wordAt 75 = .ok (.iadd, 1) := dq_g297.2.2.2.2.2.2.2.2.2.2.2.2.2.2.2.2.2.1
theorem dX10_wordAt_76 : decode cX10_wordAt 76 = .ok (.iload 5, 2) := dq_g297.2.2.2.2.2.2.2.2.2.2.2.2.2.2.2.2.2.2.1
theorem dX10_wordAt_78 : decode cX10_wordAt 78 = .ok (.iadd, 1) := dq_g297.2.2.2.2.2.2.2.2.2.2.2.2.2.2.2.2.2.2.2.1
theorem dX10_wordAt_79 : decode cX10_wordAt 79 = .ok (.iaload, 1) := dq_g297.2.2.2.2.2.2.2.2.2.2.2.2.2.2.2.2.2.2.2.2.1
theorem dX10_wordAt_80 : decode cX10_wordAt 80 = .ok (.bipush 32, 2) := dq_g297.2.2.2.2.2.2.2.2.2.2.2.2.2.2.2.2.2.2.2.2.2.1
theorem dX10_wordAt_82 : decode cX10_wordAt 82 = .ok (.if_icmp .ne 5, 3) := dq_g297.2.2.2.2.2.2.2.2.2.2.2.2.2.2.2.2.2.2.2.2.2.2.1
theorem dX10_wordAt_85 : decode cX10_wordAt 85 = .ok (.iload_n 3, 1) := dq_g297.2.2.2.2.2.2.2.2.2.2.2.2.2.2.2.2.2.2.2.2.2.2.2.1
theorem dX10_wordAt_86 : decode cX10_wordAt 86 = .ok (.ireturn, 1) := dq_g297.2.2.2.2.2.2.2.2.2.2.2.2.2.2.2.2.2.2.2.2.2.2.2.2.1
theorem dX10_wordAt_87 : decode cX10_wordAt 87 = .ok (.iload 4, 2) := dq_g297.2.2.2.2.2.2.2.2.2.2.2.2.2.2.2.2.2.2.2.2.2.2.2.2.2.1
theorem dX10_wordAt_89 : decode cX10_wordAt 89 = .ok (.iconst 1, 1) := dq_g297.2.2.2.2.2.2.2.2.2.2.2.2.2.2.2.2.2.2.2.2.2.2.2.2.2.2.1
theorem dX10_wordAt_90 : decode cX10_wordAt 90 = .ok (.iadd, 1) := dq_g297.2.2.2.2.2.2.2.2.2.2.2.2.2.2.2.2.2.2.2.2.2.2.2.2.2.2.2.1
theorem dX10_wordAt_91 : decode cX10_wordAt 91 = .ok (.istore 4, 2) := dq_g297.2.2.2.2.2.2.2.2.2.2.2.2.2.2.2.2.2.2.2.2.2.2.2.2.2.2.2.2.1
theorem dX10_wordAt_93 : decode cX10_wordAt 93 = .ok (.aload_n 0, 1) := dq_g297.2.2.2.2.2.2.2.2.2.2.2.2.2.2.2.2.2.2.2.2.2.2.2.2.2.2.2.2.2.1
theorem dq_g298 : decode cX10_wordAt 94 = .ok (.getfield 56, 3) ∧ decode cX10_wordAt 97 = .ok (.iload 4, 2) ∧ decode cX10_wordAt 99 = .ok (.iaload, 1) ∧ decode cX10_wordAt 100 = .ok (.bipush 32, 2) ∧ decode cX10_wordAt 102 = .ok (.if_icmp .eq 12, 3) ∧ decode cX10_wordAt 105 = .ok (.iload 4, 2) ∧ decode cX10_wordAt 107 = .ok (.iconst 1, 1) ∧ decode cX10_wordAt 108 = .ok (.iadd, 1) ∧ decode cX10_wordAt 109 = .ok (.istore 4, 2) ∧ decode cX10_wordAt 111 = .ok (.goto (-18), 3) ∧ decode cX10_wordAt 114 = .ok (.goto (-109), 3) ∧ decode cX10_wordAt 117 = .ok (.iconst (-1), 1) ∧ decode cX10_wordAt 118 = .ok (.ireturn, 1) ∧ True := dqC_ok (c := cX10_wordAt) [(94, 3, some (.getfield 56)), (97, 2, some (.iload 4)), (99, 1, some (.iaload)), (100, 2, some (.bipush 32)), (102, 3, some (.if_icmp .eq 12)), (105, 2, some (.iload 4)), (107, 1, some (.iconst 1)), (108, 1, some (.iadd)), (109, 2, some (.istore 4)), (111, 3, some (.goto (-18))), (114, 3, some (.goto (-109))), (117, 1, some (.iconst (-1))), (118, 1, some (.ireturn))] _ 94 rfl (by decide +kernel)
theorem dX10_wordAt_94 : decode cX10_wordAt 94 = .ok (.getfield 56, 3) := dq_g298.1
theorem dX10_wordAt_97 : decode cX10_wordAt 97 = .ok (.iload 4, 2) := dq_g298.2.1
theorem dX10_wordAt_99 : decode cX10_wordAt 99 = .ok (.iaload, 1) := dq_g298.2.2.1
theorem dX10_wordAt_100 : decode cX10_wordAt 100 = .ok (.bipush 32, 2) := dq_g298.2.2.2.1
theorem dX10_wordAt_102 : decode cX10_wordAt 102 = .ok (.if_icmp .eq 12, 3) := dq_g298.2.2.2.2.1
theorem dX10_wordAt_105 : decode cX10_wordAt 105 = .ok (.iload 4, 2) := dq_g298.2.2.2.2.2.1
theorem dX10_wordAt_107 : decode cX10_wordAt 107 = .ok (.iconst 1, 1) := dq_g298.2.2.2.2.2.2.1
theorem dX10_wordAt_108 : decode cX10_wordAt 108 = .ok (.iadd, 1) := dq_g298.2.2.2.2.2.2.2.1
theorem dX10_wordAt_109 : decode cX10_wordAt 109 = .ok (.istore 4, 2) := dq_g298.2.2.2.2.2.2.2.2.1
theorem dX10_wordAt_111 : decode cX10_wordAt 111 = .ok (.goto (-18), 3) := dq_g298.2.2.2.2.2.2.2.2.2.1
theorem dX10_wordAt_114 : decode cX10_wordAt 114 = .ok (.goto (-109), 3) := dq_g298.2.2.2.2.2.2.2.2.2.2.1
theorem dX10_wordAt_117 : decode cX10_wordAt 117 = .ok (.iconst (-1), 1) := dq_g298.2.2.2.2.2.2.2.2.2.2.2.1
theorem dX10_wordAt_118 : decode cX10_wordAt 118 = .ok (.ireturn, 1) := dq_g298.2.2.2.2.2.2.2.2.2.2.2.2.1
theorem dq_g299 : decode cX10_reads 0 = .ok (.aload_n 0, 1) ∧ decode cX10_reads 1 = .ok (.aload_n 0, 1) ∧ decode cX10_reads 2 = .ok (.getfield 192, 3) ∧ decode cX10_reads 5 = .ok (.invokevirtual 195, 3) ∧ decode cX10_reads 8 = .ok (.bipush 32, 2) ∧ decode cX10_reads 10 = .ok (.if_icmp .eq 16, 3) ∧ decode cX10_reads 13 = .ok (.aload_n 0, 1) ∧ decode cX10_reads 14 = .ok (.aload_n 0, 1) ∧ decode cX10_reads 15 = .ok (.getfield 192, 3) ∧ decode cX10_reads 18 = .ok (.invokevirtual 195, 3) ∧ decode cX10_reads 21 = .ok (.bipush 10, 2) ∧ decode cX10_reads 23 = .ok (.if_icmp .ne 16, 3) ∧ decode cX10_reads 26 = .ok (.aload_n 0, 1) ∧ decode cX10_reads 27 = .ok (.aload_n 0, 1) ∧ decode cX10_reads 28 = .ok (.getfield 192, 3) ∧ decode cX10_reads 31 = .ok (.iconst 1, 1) ∧ decode cX10_reads 32 = .ok (.iadd, 1) ∧ decode cX10_reads 33 = .ok (.putfield 192, 3) ∧ decode cX10_reads 36 = .ok (.goto (-36), 3) ∧ decode cX10_reads 39 = .ok (.aload_n 0, 1) ∧ decode cX10_reads 40 = .ok (.aload_n 0, 1) ∧ decode cX10_reads 41 = .ok (.getfield 192, 3) ∧ decode cX10_reads 44 = .ok (.putfield 199, 3) ∧ decode cX10_reads 47 = .ok (.aload_n 0, 1) ∧ decode cX10_reads 48 = .ok (.iconst 1, 1) ∧ decode cX10_reads 49 = .ok (.putfield 202, 3) ∧ decode cX10_reads 52 = .ok (.aload_n 0, 1) ∧ decode cX10_reads 53 = .ok (.aload_n 0, 1) ∧ decode cX10_reads 54 = .ok (.getfield 192, 3) ∧ decode cX10_reads 57 = .ok (.invokevirtual 195, 3) ∧ True := dqC_ok (c := cX10_reads) [(0, 1, some (.aload_n 0)), (1, 1, some (.aload_n 0)), (2, 3, some (.getfield 192)), (5, 3, some (.invokevirtual 195)), (8, 2, some (.bipush 32)), (10, 3, some (.if_icmp .eq 16)), (13, 1, some (.aload_n 0)), (14, 1, some (.aload_n 0)), (15, 3, some (.getfield 192)), (18, 3, some (.invokevirtual 195)), (21, 2, some (.bipush 10)), (23, 3, some (.if_icmp .ne 16)), (26, 1, some (.aload_n 0)), (27, 1, some (.aload_n 0)), (28, 3, some (.getfield 192)), (31, 1, some (.iconst 1)), (32, 1, some (.iadd)), (33, 3, some (.putfield 192)), (36, 3, some (.goto (-36))), (39, 1, some (.aload_n 0)), (40, 1, some (.aload_n 0)), (41, 3, some (.getfield 192)), (44, 3, some (.putfield 199)), (47, 1, some (.aload_n 0)), (48, 1, some (.iconst 1)), (49, 3, some (.putfield 202)), (52, 1, some (.aload_n 0)), (53, 1, some (.aload_n 0)), (54, 3, some (.getfield 192)), (57, 3, some (.invokevirtual 195))] _ 0 rfl (by decide +kernel)
theorem dX10_reads_0 : decode cX10_reads 0 = .ok (.aload_n 0, 1) := dq_g299.1
theorem dX10_reads_1 : decode cX10_reads 1 = .ok (.aload_n 0, 1) := dq_g299.2.1
theorem dX10_reads_2 : decode cX10_reads 2 = .ok (.getfield 192, 3) := dq_g299.2.2.1
theorem dX10_reads_5 : decode cX10_reads 5 = .ok (.invokevirtual 195, 3) := dq_g299.2.2.2.1
theorem dX10_reads_8 : decode cX10_reads 8 = .ok (.bipush 32, 2) := dq_g299.2.2.2.2.1
theorem dX10_reads_10 : decode cX10_reads 10 = .ok (.if_icmp .eq 16, 3) := dq_g299.2.2.2.2.2.1
theorem dX10_reads_13 : decode cX10_reads 13 = .ok (.aload_n 0, 1) := dq_g299.2.2.2.2.2.2.1
theorem dX10_reads_14 : decode cX10_reads 14 = .ok (.aload_n 0, 1) := dq_g299.2.2.2.2.2.2.2.1
theorem dX10_reads_15 : decode cX10_reads 15 = .ok (.getfield 192, 3) := dq_g299.2.2.2.2.2.2.2.2.1
theorem dX10_reads_18 : decode cX10_reads 18 = .ok (.invokevirtual 195, 3) := dq_g299.2.2.2.2.2.2.2.2.2.1
theorem dX10_reads_21 : decode cX10_reads 21 = .ok (.bipush 10, 2) := dq_g299.2.2.2.2.2.2.2.2.2.2.1
theorem dX10_reads_23 : decode cX10_reads 23 = .ok (.if_icmp .ne 16, 3) := dq_g299.2.2.2.2.2.2.2.2.2.2.2.1
theorem dX10_reads_26 : decode cX10_reads 26 = .ok (.aload_n 0, 1) := dq_g299.2.2.2.2.2.2.2.2.2.2.2.2.1
theorem dX10_reads_27 : decode cX10_reads 27 = .ok (.aload_n 0, 1) := dq_g299.2.2.2.2.2.2.2.2.2.2.2.2.2.1
theorem dX10_reads_28 : decode cX10_reads 28 = .ok (.getfield 192, 3) := dq_g299.2.2.2.2.2.2.2.2.2.2.2.2.2.2.1
theorem dX10_reads_31 : decode cX10_reads 31 = .ok (.iconst 1, 1) := dq_g299.2.2.2.2.2.2.2.2.2.2.2.2.2.2.2.1
theorem dX10_reads_32 : decode cX10_reads 32 = .ok (.iadd, 1) := dq_g299.2.2.2.2.2.2.2.2.2.2.2.2.2.2.2.2.1
theorem dX10_reads_33 : decode cX10_reads 33 = .ok (.putfield 192, 3) := dq_g299.2.2.2.2.2.2.2.2.2.2.2.2.2.2.2.2.2.1
theorem dX10_reads_36 : decode cX10_reads 36 = .ok (.goto (-36), 3) := dq_g299.2.2.2.2.2.2.2.2.2.2.2.2.2.2.2.2.2.2.1
theorem dX10_reads_39 : decode cX10_reads 39 = .ok (.aload_n 0, 1) := dq_g299.2.2.2.2.2.2.2.2.2.2.2.2.2.2.2.2.2.2.2.1
theorem dX10_reads_40 : decode cX10_reads 40 = .ok (.aload_n 0, 1) := dq_g299.2.2.2.2.2.2.2.2.2.2.2.2.2.2.2.2.2.2.2.2.1
theorem dX10_reads_41 : decode cX10_reads 41 = .ok (.getfield 192, 3) := dq_g299.2.2.2.2.2.2.2.2.2.2.2.2.2.2.2.2.2.2.2.2.2.1
theorem dX10_reads_44 : decode cX10_reads 44 = .ok (.putfield 199, 3) := dq_g299.2.2.2.2.2.2.2.2.2.2.2.2.2.2.2.2.2.2.2.2.2.2.1
theorem dX10_reads_47 : decode cX10_reads 47 = .ok (.aload_n 0, 1) := dq_g299.2.2.2.2.2.2.2.2.2.2.2.2.2.2.2.2.2.2.2.2.2.2.2.1
theorem dX10_reads_48 : decode cX10_reads 48 = .ok (.iconst 1, 1) := dq_g299.2.2.2.2.2.2.2.2.2.2.2.2.2.2.2.2.2.2.2.2.2.2.2.2.1
theorem dX10_reads_49 : decode cX10_reads 49 = .ok (.putfield 202, 3) := dq_g299.2.2.2.2.2.2.2.2.2.2.2.2.2.2.2.2.2.2.2.2.2.2.2.2.2.1
theorem dX10_reads_52 : decode cX10_reads 52 = .ok (.aload_n 0, 1) := dq_g299.2.2.2.2.2.2.2.2.2.2.2.2.2.2.2.2.2.2.2.2.2.2.2.2.2.2.1
theorem dX10_reads_53 : decode cX10_reads 53 = .ok (.aload_n 0, 1) := dq_g299.2.2.2.2.2.2.2.2.2.2.2.2.2.2.2.2.2.2.2.2.2.2.2.2.2.2.2.1
theorem dX10_reads_54 : decode cX10_reads 54 = .ok (.getfield 192, 3) := dq_g299.2.2.2.2.2.2.2.2.2.2.2.2.2.2.2.2.2.2.2.2.2.2.2.2.2.2.2.2.1
theorem dX10_reads_57 : decode cX10_reads 57 = .ok (.invokevirtual 195, 3) := dq_g299.2.2.2.2.2.2.2.2.2.2.2.2.2.2.2.2.2.2.2.2.2.2.2.2.2.2.2.2.2.1
theorem dq_g300 : decode cX10_reads 60 = .ok (.istore_n 1, 1) ∧ decode cX10_reads 61 = .ok (.iload_n 1, 1) ∧ decode cX10_reads 62 = .ok (.iconst (-1), 1) ∧ decode cX10_reads 63 = .ok (.if_icmp .ne 9, 3) ∧ decode cX10_reads 66 = .ok (.aload_n 0, 1) ∧ decode cX10_reads 67 = .ok (.iconst 0, 1) ∧ decode cX10_reads 68 = .ok (.putfield 202, 3) ∧ decode cX10_reads 71 = .ok (.return_, 1) ∧ decode cX10_reads 72 = .ok (.aload_n 0, 1) ∧ decode cX10_reads 73 = .ok (.aload_n 0, 1) ∧ decode cX10_reads 74 = .ok (.getfield 192, 3) ∧ decode cX10_reads 77 = .ok (.iconst 1, 1) ∧ decode cX10_reads 78 = .ok (.iadd, 1) ∧ decode cX10_reads 79 = .ok (.putfield 192, 3) ∧ decode cX10_reads 82 = .ok (.aload_n 0, 1) ∧ decode cX10_reads 83 = .ok (.iload_n 1, 1) ∧ decode cX10_reads 84 = .ok (.putfield 205, 3) ∧ decode cX10_reads 87 = .ok (.aload_n 0, 1) ∧ decode cX10_reads 88 = .ok (.iload_n 1, 1) ∧ decode cX10_reads 89 = .ok (.invokevirtual 208, 3) ∧ decode cX10_reads 92 = .ok (.ifCond .eq 63, 3) ∧ decode cX10_reads 95 = .ok (.aload_n 0, 1) ∧ decode cX10_reads 96 = .ok (.aload_n 0, 1) ∧ decode cX10_reads 97 = .ok (.aload_n 0, 1) ∧ decode cX10_reads 98 = .ok (.getfield 192, 3) ∧ decode cX10_reads 101 = .ok (.invokevirtual 195, 3) ∧ decode cX10_reads 104 = .ok (.invokevirtual 208, 3) ∧ decode cX10_reads 107 = .ok (.ifCond .eq 16, 3) ∧ decode cX10_reads 110 = .ok (.aload_n 0, 1) ∧ decode cX10_reads 111 = .ok (.aload_n 0, 1) ∧ True := dqC_ok (c := cX10_reads) [(60, 1, some (.istore_n 1)), (61, 1, some (.iload_n 1)), (62, 1, some (.iconst (-1))), (63, 3, some (.if_icmp .ne 9)), (66, 1, some (.aload_n 0)), (67, 1, some (.iconst 0)), (68, 3, some (.putfield 202)), (71, 1, some (.return_)), (72, 1, some (.aload_n 0)), (73, 1, some (.aload_n 0)), (74, 3, some (.getfield 192)), (77, 1, some (.iconst 1)), (78, 1, some (.iadd)), (79, 3, some (.putfield 192)), (82, 1, some (.aload_n 0)), (83, 1, some (.iload_n 1)), (84, 3, some (.putfield 205)), (87, 1, some (.aload_n 0)), (88, 1, some (.iload_n 1)), (89, 3, some (.invokevirtual 208)), (92, 3, some (.ifCond .eq 63)), (95, 1, some (.aload_n 0)), (96, 1, some (.aload_n 0)), (97, 1, some (.aload_n 0)), (98, 3, some (.getfield 192)), (101, 3, some (.invokevirtual 195)), (104, 3, some (.invokevirtual 208)), (107, 3, some (.ifCond .eq 16)), (110, 1, some (.aload_n 0)), (111, 1, some (.aload_n 0))] _ 60 rfl (by decide +kernel)
theorem dX10_reads_60 : decode cX10_reads 60 = .ok (.istore_n 1, 1) := dq_g300.1
theorem dX10_reads_61 : decode cX10_reads 61 = .ok (.iload_n 1, 1) := dq_g300.2.1
theorem dX10_reads_62 : decode cX10_reads 62 = .ok (.iconst (-1), 1) := dq_g300.2.2.1
theorem dX10_reads_63 : decode cX10_reads 63 = .ok (.if_icmp .ne 9, 3) := dq_g300.2.2.2.1
theorem dX10_reads_66 : decode cX10_reads 66 = .ok (.aload_n 0, 1) := dq_g300.2.2.2.2.1
theorem dX10_reads_67 : decode cX10_reads 67 = .ok (.iconst 0, 1) := dq_g300.2.2.2.2.2.1
theorem dX10_reads_68 : decode cX10_reads 68 = .ok (.putfield 202, 3) := dq_g300.2.2.2.2.2.2.1
theorem dX10_reads_71 : decode cX10_reads 71 = .ok (.return_, 1) := dq_g300.2.2.2.2.2.2.2.1
theorem dX10_reads_72 : decode cX10_reads 72 = .ok (.aload_n 0, 1) := dq_g300.2.2.2.2.2.2.2.2.1
theorem dX10_reads_73 : decode cX10_reads 73 = .ok (.aload_n 0, 1) := dq_g300.2.2.2.2.2.2.2.2.2.1
theorem dX10_reads_74 : decode cX10_reads 74 = .ok (.getfield 192, 3) := dq_g300.2.2.2.2.2.2.2.2.2.2.1
theorem dX10_reads_77 : decode cX10_reads 77 = .ok (.iconst 1, 1) := dq_g300.2.2.2.2.2.2.2.2.2.2.2.1
theorem dX10_reads_78 : decode cX10_reads 78 = .ok (.iadd, 1) := dq_g300.2.2.2.2.2.2.2.2.2.2.2.2.1
theorem dX10_reads_79 : decode cX10_reads 79 = .ok (.putfield 192, 3) := dq_g300.2.2.2.2.2.2.2.2.2.2.2.2.2.1
theorem dX10_reads_82 : decode cX10_reads 82 = .ok (.aload_n 0, 1) := dq_g300.2.2.2.2.2.2.2.2.2.2.2.2.2.2.1
theorem dX10_reads_83 : decode cX10_reads 83 = .ok (.iload_n 1, 1) := dq_g300.2.2.2.2.2.2.2.2.2.2.2.2.2.2.2.1
theorem dX10_reads_84 : decode cX10_reads 84 = .ok (.putfield 205, 3) := dq_g300.2.2.2.2.2.2.2.2.2.2.2.2.2.2.2.2.1
theorem dX10_reads_87 : decode cX10_reads 87 = .ok (.aload_n 0, 1) := dq_g300.2.2.2.2.2.2.2.2.2.2.2.2.2.2.2.2.2.1
theorem dX10_reads_88 : decode cX10_reads 88 = .ok (.iload_n 1, 1) := dq_g300.2.2.2.2.2.2.2.2.2.2.2.2.2.2.2.2.2.2.1
theorem dX10_reads_89 : decode cX10_reads 89 = .ok (.invokevirtual 208, 3) := dq_g300.2.2.2.2.2.2.2.2.2.2.2.2.2.2.2.2.2.2.2.1
theorem dX10_reads_92 : decode cX10_reads 92 = .ok (.ifCond .eq 63, 3) := dq_g300.2.2.2.2.2.2.2.2.2.2.2.2.2.2.2.2.2.2.2.2.1
theorem dX10_reads_95 : decode cX10_reads 95 = .ok (.aload_n 0, 1) := dq_g300.2.2.2.2.2.2.2.2.2.2.2.2.2.2.2.2.2.2.2.2.2.1
theorem dX10_reads_96 : decode cX10_reads 96 = .ok (.aload_n 0, 1) := dq_g300.2.2.2.2.2.2.2.2.2.2.2.2.2.2.2.2.2.2.2.2.2.2.1
theorem dX10_reads_97 : decode cX10_reads 97 = .ok (.aload_n 0, 1) := dq_g300.2.2.2.2.2.2.2.2.2.2.2.2.2.2.2.2.2.2.2.2.2.2.2.1
theorem dX10_reads_98 : decode cX10_reads 98 = .ok (.getfield 192, 3) := dq_g300.2.2.2.2.2.2.2.2.2.2.2.2.2.2.2.2.2.2.2.2.2.2.2.2.1
theorem dX10_reads_101 : decode cX10_reads 101 = .ok (.invokevirtual 195, 3) := dq_g300.2.2.2.2.2.2.2.2.2.2.2.2.2.2.2.2.2.2.2.2.2.2.2.2.2.1
theorem dX10_reads_104 : decode cX10_reads 104 = .ok (.invokevirtual 208, 3) := dq_g300.2.2.2.2.2.2.2.2.2.2.2.2.2.2.2.2.2.2.2.2.2.2.2.2.2.2.1
theorem dX10_reads_107 : decode cX10_reads 107 = .ok (.ifCond .eq 16, 3) := dq_g300.2.2.2.2.2.2.2.2.2.2.2.2.2.2.2.2.2.2.2.2.2.2.2.2.2.2.2.1
theorem dX10_reads_110 : decode cX10_reads 110 = .ok (.aload_n 0, 1) := dq_g300.2.2.2.2.2.2.2.2.2.2.2.2.2.2.2.2.2.2.2.2.2.2.2.2.2.2.2.2.1
theorem dX10_reads_111 : decode cX10_reads 111 = .ok (.aload_n 0, 1) := dq_g300.2.2.2.2.2.2.2.2.2.2.2.2.2.2.2.2.2.2.2.2.2.2.2.2.2.2.2.2.2.1
theorem dq_g301 : decode cX10_reads 112 = .ok (.getfield 192, 3) ∧ decode cX10_reads 115 = .ok (.iconst 1, 1) ∧ decode cX10_reads 116 = .ok (.iadd, 1) ∧ decode cX10_reads 117 = .ok (.putfield 192, 3) ∧ decode cX10_reads 120 = .ok (.goto (-25), 3) ∧ decode cX10_reads 123 = .ok (.aload_n 0, 1) ∧ decode cX10_reads 124 = .ok (.aload_n 0, 1) ∧ decode cX10_reads 125 = .ok (.aload_n 0, 1) ∧ decode cX10_reads 126 = .ok (.getfield 199, 3) ∧ decode cX10_reads 129 = .ok (.aload_n 0, 1) ∧ decode cX10_reads 130 = .ok (.getfield 192, 3) ∧ decode cX10_reads 133 = .ok (.invokevirtual 211, 3) ∧ decode cX10_reads 136 = .ok (.putfield 205, 3) ∧ decode cX10_reads 139 = .ok (.aload_n 0, 1) ∧ decode cX10_reads 140 = .ok (.getfield 205, 3) ∧ decode cX10_reads 143 = .ok (.iconst (-1), 1) ∧ decode cX10_reads 144 = .ok (.if_icmp .eq 129, 3) ∧ decode cX10_reads 147 = .ok (.aload_n 0, 1) ∧ decode cX10_reads 148 = .ok (.iconst 2, 1) ∧ decode cX10_reads 149 = .ok (.putfield 202, 3) ∧ decode cX10_reads 152 = .ok (.goto 121, 3) ∧ decode cX10_reads 155 = .ok (.aload_n 0, 1) ∧ decode cX10_reads 156 = .ok (.iload_n 1, 1) ∧ decode cX10_reads 157 = .ok (.invokevirtual 215, 3) ∧ decode cX10_reads 160 = .ok (.ifCond .eq 100, 3) ∧ decode cX10_reads 163 = .ok (.aload_n 0, 1) ∧ decode cX10_reads 164 = .ok (.iload_n 1, 1) ∧ decode cX10_reads 165 = .ok (.bipush 48, 2) ∧ decode cX10_reads 167 = .ok (.isub, 1) ∧ decode cX10_reads 168 = .ok (.putfield 205, 3) ∧ True := dqC_ok (c := cX10_reads) [(112, 3, some (.getfield 192)), (115, 1, some (.iconst 1)), (116, 1, some (.iadd)), (117, 3, some (.putfield 192)), (120, 3, some (.goto (-25))), (123, 1, some (.aload_n 0)), (124, 1, some (.aload_n 0)), (125, 1, some (.aload_n 0)), (126, 3, some (.getfield 199)), (129, 1, some (.aload_n 0)), (130, 3, some (.getfield 192)), (133, 3, some (.invokevirtual 211)), (136, 3, some (.putfield 205)), (139, 1, some (.aload_n 0)), (140, 3, some (.getfield 205)), (143, 1, some (.iconst (-1))), (144, 3, some (.if_icmp .eq 129)), (147, 1, some (.aload_n 0)), (148, 1, some (.iconst 2)), (149, 3, some (.putfield 202)), (152, 3, some (.goto 121)), (155, 1, some (.aload_n 0)), (156, 1, some (.iload_n 1)), (157, 3, some (.invokevirtual 215)), (160, 3, some (.ifCond .eq 100)), (163, 1, some (.aload_n 0)), (164, 1, some (.iload_n 1)), (165, 2, some (.bipush 48)), (167, 1, some (.isub)), (168, 3, some (.putfield 205))] _ 112 rfl (by decide +kernel)
theorem dX10_reads_112 : decode cX10_reads 112 = .ok (.getfield 192, 3) := dq_g301.1
theorem dX10_reads_115 : decode cX10_reads 115 = .ok (.iconst 1, 1) := dq_g301.2.1
theorem dX10_reads_116 : decode cX10_reads 116 = .ok (.iadd, 1) := dq_g301.2.2.1
theorem dX10_reads_117 : decode cX10_reads 117 = .ok (.putfield 192, 3) := dq_g301.2.2.2.1
theorem dX10_reads_120 : decode cX10_reads 120 = .ok (.goto (-25), 3) := dq_g301.2.2.2.2.1
theorem dX10_reads_123 : decode cX10_reads 123 = .ok (.aload_n 0, 1) := dq_g301.2.2.2.2.2.1
theorem dX10_reads_124 : decode cX10_reads 124 = .ok (.aload_n 0, 1) := dq_g301.2.2.2.2.2.2.1
theorem dX10_reads_125 : decode cX10_reads 125 = .ok (.aload_n 0, 1) := dq_g301.2.2.2.2.2.2.2.1
theorem dX10_reads_126 : decode cX10_reads 126 = .ok (.getfield 199, 3) := dq_g301.2.2.2.2.2.2.2.2.1
theorem dX10_reads_129 : decode cX10_reads 129 = .ok (.aload_n 0, 1) := dq_g301.2.2.2.2.2.2.2.2.2.1
theorem dX10_reads_130 : decode cX10_reads 130 = .ok (.getfield 192, 3) := dq_g301.2.2.2.2.2.2.2.2.2.2.1
theorem dX10_reads_133 : decode cX10_reads 133 = .ok (.invokevirtual 211, 3) := dq_g301.2.2.2.2.2.2.2.2.2.2.2.1
theorem dX10_reads_136 : decode cX10_reads 136 = .ok (.putfield 205, 3) := dq_g301.2.2.2.2.2.2.2.2.2.2.2.2.1
theorem dX10_reads_139 : decode cX10_reads 139 = .ok (.aload_n 0, 1) := dq_g301.2.2.2.2.2.2.2.2.2.2.2.2.2.1
theorem dX10_reads_140 : decode cX10_reads 140 = .ok (.getfield 205, 3) := dq_g301.2.2.2.2.2.2.2.2.2.2.2.2.2.2.1
theorem dX10_reads_143 : decode cX10_reads 143 = .ok (.iconst (-1), 1) := dq_g301.2.2.2.2.2.2.2.2.2.2.2.2.2.2.2.1
theorem dX10_reads_144 : decode cX10_reads 144 = .ok (.if_icmp .eq 129, 3) := dq_g301.2.2.2.2.2.2.2.2.2.2.2.2.2.2.2.2.1
theorem dX10_reads_147 : decode cX10_reads 147 = .ok (.aload_n 0, 1) := dq_g301.2.2.2.2.2.2.2.2.2.2.2.2.2.2.2.2.2.1
theorem dX10_reads_148 : decode cX10_reads 148 = .ok (.iconst 2, 1) := dq_g301.2.2.2.2.2.2.2.2.2.2.2.2.2.2.2.2.2.2.1
theorem dX10_reads_149 : decode cX10_reads 149 = .ok (.putfield 202, 3) := dq_g301.2.2.2.2.2.2.2.2.2.2.2.2.2.2.2.2.2.2.2.1
theorem dX10_reads_152 : decode cX10_reads 152 = .ok (.goto 121, 3) := dq_g301.2.2.2.2.2.2.2.2.2.2.2.2.2.2.2.2.2.2.2.2.1
theorem dX10_reads_155 : decode cX10_reads 155 = .ok (.aload_n 0, 1) := dq_g301.2.2.2.2.2.2.2.2.2.2.2.2.2.2.2.2.2.2.2.2.2.1
theorem dX10_reads_156 : decode cX10_reads 156 = .ok (.iload_n 1, 1) := dq_g301.2.2.2.2.2.2.2.2.2.2.2.2.2.2.2.2.2.2.2.2.2.2.1
theorem dX10_reads_157 : decode cX10_reads 157 = .ok (.invokevirtual 215, 3) := dq_g301.2.2.2.2.2.2.2.2.2.2.2.2.2.2.2.2.2.2.2.2.2.2.2.1
theorem dX10_reads_160 : decode cX10_reads 160 = .ok (.ifCond .eq 100, 3) := dq_g301.2.2.2.2.2.2.2.2.2.2.2.2.2.2.2.2.2.2.2.2.2.2.2.2.1
theorem dX10_reads_163 : decode cX10_reads 163 = .ok (.aload_n 0, 1) := dq_g301.2.2.2.2.2.2.2.2.2.2.2.2.2.2.2.2.2.2.2.2.2.2.2.2.2.1
theorem dX10_reads_164 : decode cX10_reads 164 = .ok (.iload_n 1, 1) := dq_g301.2.2.2.2.2.2.2.2.2.2.2.2.2.2.2.2.2.2.2.2.2.2.2.2.2.2.1
theorem dX10_reads_165 : decode cX10_reads 165 = .ok (.bipush 48, 2) := dq_g301.2.2.2.2.2.2.2.2.2.2.2.2.2.2.2.2.2.2.2.2.2.2.2.2.2.2.2.1
theorem dX10_reads_167 : decode cX10_reads 167 = .ok (.isub, 1) := dq_g301.2.2.2.2.2.2.2.2.2.2.2.2.2.2.2.2.2.2.2.2.2.2.2.2.2.2.2.2.1
theorem dX10_reads_168 : decode cX10_reads 168 = .ok (.putfield 205, 3) := dq_g301.2.2.2.2.2.2.2.2.2.2.2.2.2.2.2.2.2.2.2.2.2.2.2.2.2.2.2.2.2.1
theorem dq_g302 : decode cX10_reads 171 = .ok (.aload_n 0, 1) ∧ decode cX10_reads 172 = .ok (.aload_n 0, 1) ∧ decode cX10_reads 173 = .ok (.aload_n 0, 1) ∧ decode cX10_reads 174 = .ok (.getfield 192, 3) ∧ decode cX10_reads 177 = .ok (.invokevirtual 195, 3) ∧ decode cX10_reads 180 = .ok (.invokevirtual 215, 3) ∧ decode cX10_reads 183 = .ok (.ifCond .eq 55, 3) ∧ decode cX10_reads 186 = .ok (.aload_n 0, 1) ∧ decode cX10_reads 187 = .ok (.aload_n 0, 1) ∧ decode cX10_reads 188 = .ok (.getfield 205, 3) ∧ decode cX10_reads 191 = .ok (.ldc 218, 2) ∧ decode cX10_reads 193 = .ok (.if_icmp .ge 25, 3) ∧ decode cX10_reads 196 = .ok (.bipush 10, 2) ∧ decode cX10_reads 198 = .ok (.aload_n 0, 1) ∧ decode cX10_reads 199 = .ok (.getfield 205, 3) ∧ decode cX10_reads 202 = .ok (.imul, 1) ∧ decode cX10_reads 203 = .ok (.aload_n 0, 1) ∧ decode cX10_reads 204 = .ok (.aload_n 0, 1) ∧ decode cX10_reads 205 = .ok (.getfield 192, 3) ∧ decode cX10_reads 208 = .ok (.invokevirtual 195, 3) ∧ decode cX10_reads 211 = .ok (.iadd, 1) ∧ decode cX10_reads 212 = .ok (.bipush 48, 2) ∧ decode cX10_reads 214 = .ok (.isub, 1) ∧ decode cX10_reads 215 = .ok (.goto 7, 3) ∧ decode cX10_reads 218 = .ok (.aload_n 0, 1) ∧ decode cX10_reads 219 = .ok (.getfield 205, 3) ∧ decode cX10_reads 222 = .ok (.putfield 205, 3) ∧ decode cX10_reads 225 = .ok (.aload_n 0, 1) ∧ decode cX10_reads 226 = .ok (.aload_n 0, 1) ∧ decode cX10_reads 227 = .ok (.getfield 192, 3) ∧ True := dqC_ok (c := cX10_reads) [(171, 1, some (.aload_n 0)), (172, 1, some (.aload_n 0)), (173, 1, some (.aload_n 0)), (174, 3, some (.getfield 192)), (177, 3, some (.invokevirtual 195)), (180, 3, some (.invokevirtual 215)), (183, 3, some (.ifCond .eq 55)), (186, 1, some (.aload_n 0)), (187, 1, some (.aload_n 0)), (188, 3, some (.getfield 205)), (191, 2, some (.ldc 218)), (193, 3, some (.if_icmp .ge 25)), (196, 2, some (.bipush 10)), (198, 1, some (.aload_n 0)), (199, 3, some (.getfield 205)), (202, 1, some (.imul)), (203, 1, some (.aload_n 0)), (204, 1, some (.aload_n 0)), (205, 3, some (.getfield 192)), (208, 3, some (.invokevirtual 195)), (211, 1, some (.iadd)), (212, 2, some (.bipush 48)), (214, 1, some (.isub)), (215, 3, some (.goto 7)), (218, 1, some (.aload_n 0)), (219, 3, some (.getfield 205)), (222, 3, some (.putfield 205)), (225, 1, some (.aload_n 0)), (226, 1, some (.aload_n 0)), (227, 3, some (.getfield 192))] _ 171 rfl (by decide +kernel)
theorem dX10_reads_171 : decode cX10_reads 171 = .ok (.aload_n 0, 1) := dq_g302.1
theorem dX10_reads_172 : decode cX10_reads 172 = .ok (.aload_n 0, 1) := dq_g302.2.1
theorem dX10_reads_173 : decode cX10_reads 173 = .ok (.aload_n 0, 1) := dq_g302.2.2.1
theorem dX10_reads_174 : decode cX10_reads 174 = .ok (.getfield 192, 3) := dq_g302.2.2.2.1
theorem dX10_reads_177 : decode cX10_reads 177 = .ok (.invokevirtual 195, 3) := dq_g302.2.2.2.2.1
theorem dX10_reads_180 : decode cX10_reads 180 = .ok (.invokevirtual 215, 3) := dq_g302.2.2.2.2.2.1
theorem dX10_reads_183 : decode cX10_reads 183 = .ok (.ifCond .eq 55, 3) := dq_g302.2.2.2.2.2.2.1
theorem dX10_reads_186 : decode cX10_reads 186 = .ok (.aload_n 0, 1) := dq_g302.2.2.2.2.2.2.2.1
theorem dX10_reads_187 : decode cX10_reads 187 = .ok (.aload_n 0, 1) := dq_g302.2.2.2.2.2.2.2.2.1
theorem dX10_reads_188 : decode cX10_reads 188 = .ok (.getfield 205, 3) := dq_g302.2.2.2.2.2.2.2.2.2.1
theorem dX10_reads_191 : decode cX10_reads 191 = .ok (.ldc 218, 2) := dq_g302.2.2.2.2.2.2.2.2.2.2.1
theorem dX10_reads_193 : decode cX10_reads 193 = .ok (.if_icmp .ge 25, 3) := dq_g302.2.2.2.2.2.2.2.2.2.2.2.1
theorem dX10_reads_196 : decode cX10_reads 196 = .ok (.bipush 10, 2) := dq_g302.2.2.2.2.2.2.2.2.2.2.2.2.1
theorem dX10_reads_198 : decode cX10_reads 198 = .ok (.aload_n 0, 1) := dq_g302.2.2.2.2.2.2.2.2.2.2.2.2.2.1
theorem dX10_reads_199 : decode cX10_reads 199 = .ok (.getfield 205, 3) := dq_g302.2.2.2.2.2.2.2.2.2.2.2.2.2.2.1
theorem dX10_reads_202 : decode cX10_reads 202 = .ok (.imul, 1) := dq_g302.2.2.2.2.2.2.2.2.2.2.2.2.2.2.2.1
theorem dX10_reads_203 : decode cX10_reads 203 = .ok (.aload_n 0, 1) := dq_g302.2.2.2.2.2.2.2.2.2.2.2.2.2.2.2.2.1
theorem dX10_reads_204 : decode cX10_reads 204 = .ok (.aload_n 0, 1) := dq_g302.2.2.2.2.2.2.2.2.2.2.2.2.2.2.2.2.2.1
theorem dX10_reads_205 : decode cX10_reads 205 = .ok (.getfield 192, 3) := dq_g302.2.2.2.2.2.2.2.2.2.2.2.2.2.2.2.2.2.2.1
theorem dX10_reads_208 : decode cX10_reads 208 = .ok (.invokevirtual 195, 3) := dq_g302.2.2.2.2.2.2.2.2.2.2.2.2.2.2.2.2.2.2.2.1
theorem dX10_reads_211 : decode cX10_reads 211 = .ok (.iadd, 1) := dq_g302.2.2.2.2.2.2.2.2.2.2.2.2.2.2.2.2.2.2.2.2.1
theorem dX10_reads_212 : decode cX10_reads 212 = .ok (.bipush 48, 2) := dq_g302.2.2.2.2.2.2.2.2.2.2.2.2.2.2.2.2.2.2.2.2.2.1
theorem dX10_reads_214 : decode cX10_reads 214 = .ok (.isub, 1) := dq_g302.2.2.2.2.2.2.2.2.2.2.2.2.2.2.2.2.2.2.2.2.2.2.1
theorem dX10_reads_215 : decode cX10_reads 215 = .ok (.goto 7, 3) := dq_g302.2.2.2.2.2.2.2.2.2.2.2.2.2.2.2.2.2.2.2.2.2.2.2.1
theorem dX10_reads_218 : decode cX10_reads 218 = .ok (.aload_n 0, 1) := dq_g302.2.2.2.2.2.2.2.2.2.2.2.2.2.2.2.2.2.2.2.2.2.2.2.2.1
theorem dX10_reads_219 : decode cX10_reads 219 = .ok (.getfield 205, 3) := dq_g302.2.2.2.2.2.2.2.2.2.2.2.2.2.2.2.2.2.2.2.2.2.2.2.2.2.1
theorem dX10_reads_222 : decode cX10_reads 222 = .ok (.putfield 205, 3) := dq_g302.2.2.2.2.2.2.2.2.2.2.2.2.2.2.2.2.2.2.2.2.2.2.2.2.2.2.1
theorem dX10_reads_225 : decode cX10_reads 225 = .ok (.aload_n 0, 1) := dq_g302.2.2.2.2.2.2.2.2.2.2.2.2.2.2.2.2.2.2.2.2.2.2.2.2.2.2.2.1
theorem dX10_reads_226 : decode cX10_reads 226 = .ok (.aload_n 0, 1) := dq_g302.2.2.2.2.2.2.2.2.2.2.2.2.2.2.2.2.2.2.2.2.2.2.2.2.2.2.2.2.1
theorem dX10_reads_227 : decode cX10_reads 227 = .ok (.getfield 192, 3) := dq_g302.2.2.2.2.2.2.2.2.2.2.2.2.2.2.2.2.2.2.2.2.2.2.2.2.2.2.2.2.2.1
theorem dq_g303 : decode cX10_reads 230 = .ok (.iconst 1, 1) ∧ decode cX10_reads 231 = .ok (.iadd, 1) ∧ decode cX10_reads 232 = .ok (.putfield 192, 3) ∧ decode cX10_reads 235 = .ok (.goto (-64), 3) ∧ decode cX10_reads 238 = .ok (.aload_n 0, 1) ∧ decode cX10_reads 239 = .ok (.getfield 192, 3) ∧ decode cX10_reads 242 = .ok (.aload_n 0, 1) ∧ decode cX10_reads 243 = .ok (.getfield 199, 3) ∧ decode cX10_reads 246 = .ok (.isub, 1) ∧ decode cX10_reads 247 = .ok (.bipush 6, 2) ∧ decode cX10_reads 249 = .ok (.if_icmp .ge 24, 3) ∧ decode cX10_reads 252 = .ok (.aload_n 0, 1) ∧ decode cX10_reads 253 = .ok (.iconst 3, 1) ∧ decode cX10_reads 254 = .ok (.putfield 202, 3) ∧ decode cX10_reads 257 = .ok (.goto 16, 3) ∧ decode cX10_reads 260 = .ok (.aload_n 0, 1) ∧ decode cX10_reads 261 = .ok (.iload_n 1, 1) ∧ decode cX10_reads 262 = .ok (.invokevirtual 219, 3) ∧ decode cX10_reads 265 = .ok (.ifCond .eq 8, 3) ∧ decode cX10_reads 268 = .ok (.aload_n 0, 1) ∧ decode cX10_reads 269 = .ok (.iconst 4, 1) ∧ decode cX10_reads 270 = .ok (.putfield 202, 3) ∧ decode cX10_reads 273 = .ok (.return_, 1) ∧ True := dqC_ok (c := cX10_reads) [(230, 1, some (.iconst 1)), (231, 1, some (.iadd)), (232, 3, some (.putfield 192)), (235, 3, some (.goto (-64))), (238, 1, some (.aload_n 0)), (239, 3, some (.getfield 192)), (242, 1, some (.aload_n 0)), (243, 3, some (.getfield 199)), (246, 1, some (.isub)), (247, 2, some (.bipush 6)), (249, 3, some (.if_icmp .ge 24)), (252, 1, some (.aload_n 0)), (253, 1, some (.iconst 3)), (254, 3, some (.putfield 202)), (257, 3, some (.goto 16)), (260, 1, some (.aload_n 0)), (261, 1, some (.iload_n 1)), (262, 3, some (.invokevirtual 219)), (265, 3, some (.ifCond .eq 8)), (268, 1, some (.aload_n 0)), (269, 1, some (.iconst 4)), (270, 3, some (.putfield 202)), (273, 1, some (.return_))] _ 230 rfl (by decide +kernel)
theorem dX10_reads_230 : decode cX10_reads 230 = .ok (.iconst 1, 1) := dq_g303.1
theorem dX10_reads_231 : decode cX10_reads 231 = .ok (.iadd, 1) := dq_g303.2.1
theorem dX10_reads_232 : decode cX10_reads 232 = .ok (.putfield 192, 3) := dq_g303.2.2.1
theorem dX10_reads_235 : decode cX10_reads 235 = .ok (.goto (-64), 3) := dq_g303.2.2.2.1
theorem dX10_reads_238 : decode cX10_reads 238 = .ok (.aload_n 0, 1) := dq_g303.2.2.2.2.1
theorem dX10_reads_239 : decode cX10_reads 239 = .ok (.getfield 192, 3) := dq_g303.2.2.2.2.2.1
theorem dX10_reads_242 : decode cX10_reads 242 = .ok (.aload_n 0, 1) := dq_g303.2.2.2.2.2.2.1
theorem dX10_reads_243 : decode cX10_reads 243 = .ok (.getfield 199, 3) := dq_g303.2.2.2.2.2.2.2.1
theorem dX10_reads_246 : decode cX10_reads 246 = .ok (.isub, 1) := dq_g303.2.2.2.2.2.2.2.2.1
theorem dX10_reads_247 : decode cX10_reads 247 = .ok (.bipush 6, 2) := dq_g303.2.2.2.2.2.2.2.2.2.1
theorem dX10_reads_249 : decode cX10_reads 249 = .ok (.if_icmp .ge 24, 3) := dq_g303.2.2.2.2.2.2.2.2.2.2.1
theorem dX10_reads_252 : decode cX10_reads 252 = .ok (.aload_n 0, 1) := dq_g303.2.2.2.2.2.2.2.2.2.2.2.1
theorem dX10_reads_253 : decode cX10_reads 253 = .ok (.iconst 3, 1) := dq_g303.2.2.2.2.2.2.2.2.2.2.2.2.1
theorem dX10_reads_254 : decode cX10_reads 254 = .ok (.putfield 202, 3) := dq_g303.2.2.2.2.2.2.2.2.2.2.2.2.2.1
theorem dX10_reads_257 : decode cX10_reads 257 = .ok (.goto 16, 3) := dq_g303.2.2.2.2.2.2.2.2.2.2.2.2.2.2.1
theorem dX10_reads_260 : decode cX10_reads 260 = .ok (.aload_n 0, 1) := dq_g303.2.2.2.2.2.2.2.2.2.2.2.2.2.2.2.1
theorem dX10_reads_261 : decode cX10_reads 261 = .ok (.iload_n 1, 1) := dq_g303.2.2.2.2.2.2.2.2.2.2.2.2.2.2.2.2.1
theorem dX10_reads_262 : decode cX10_reads 262 = .ok (.invokevirtual 219, 3) := dq_g303.2.2.2.2.2.2.2.2.2.2.2.2.2.2.2.2.2.1
theorem dX10_reads_265 : decode cX10_reads 265 = .ok (.ifCond .eq 8, 3) := dq_g303.2.2.2.2.2.2.2.2.2.2.2.2.2.2.2.2.2.2.1
theorem dX10_reads_268 : decode cX10_reads 268 = .ok (.aload_n 0, 1) := dq_g303.2.2.2.2.2.2.2.2.2.2.2.2.2.2.2.2.2.2.2.1
theorem dX10_reads_269 : decode cX10_reads 269 = .ok (.iconst 4, 1) := dq_g303.2.2.2.2.2.2.2.2.2.2.2.2.2.2.2.2.2.2.2.2.1
theorem dX10_reads_270 : decode cX10_reads 270 = .ok (.putfield 202, 3) := dq_g303.2.2.2.2.2.2.2.2.2.2.2.2.2.2.2.2.2.2.2.2.2.1
theorem dX10_reads_273 : decode cX10_reads 273 = .ok (.return_, 1) := dq_g303.2.2.2.2.2.2.2.2.2.2.2.2.2.2.2.2.2.2.2.2.2.2.1
theorem dq_g304 : decode cX10_fails 0 = .ok (.aload_n 0, 1) ∧ decode cX10_fails 1 = .ok (.iload_n 1, 1) ∧ decode cX10_fails 2 = .ok (.putfield 222, 3) ∧ decode cX10_fails 5 = .ok (.aload_n 0, 1) ∧ decode cX10_fails 6 = .ok (.aload_n 0, 1) ∧ decode cX10_fails 7 = .ok (.getfield 199, 3) ∧ decode cX10_fails 10 = .ok (.putfield 225, 3) ∧ decode cX10_fails 13 = .ok (.iconst (-1), 1) ∧ decode cX10_fails 14 = .ok (.ireturn, 1) ∧ True := dqC_ok (c := cX10_fails) [(0, 1, some (.aload_n 0)), (1, 1, some (.iload_n 1)), (2, 3, some (.putfield 222)), (5, 1, some (.aload_n 0)), (6, 1, some (.aload_n 0)), (7, 3, some (.getfield 199)), (10, 3, some (.putfield 225)), (13, 1, some (.iconst (-1))), (14, 1, some (.ireturn))] _ 0 rfl (by decide +kernel)
theorem dX10_fails_0 : decode cX10_fails 0 = .ok (.aload_n 0, 1) := dq_g304.1
theorem dX10_fails_1 : decode cX10_fails 1 = .ok (.iload_n 1, 1) := dq_g304.2.1
theorem dX10_fails_2 : decode cX10_fails 2 = .ok (.putfield 222, 3) := dq_g304.2.2.1
theorem dX10_fails_5 : decode cX10_fails 5 = .ok (.aload_n 0, 1) := dq_g304.2.2.2.1
theorem dX10_fails_6 : decode cX10_fails 6 = .ok (.aload_n 0, 1) := dq_g304.2.2.2.2.1
theorem dX10_fails_7 : decode cX10_fails 7 = .ok (.getfield 199, 3) := dq_g304.2.2.2.2.2.1
theorem dX10_fails_10 : decode cX10_fails 10 = .ok (.putfield 225, 3) := dq_g304.2.2.2.2.2.2.1
theorem dX10_fails_13 : decode cX10_fails 13 = .ok (.iconst (-1), 1) := dq_g304.2.2.2.2.2.2.2.1
theorem dX10_fails_14 : decode cX10_fails 14 = .ok (.ireturn, 1) := dq_g304.2.2.2.2.2.2.2.2.1
theorem dq_g305 : decode cX10_isWord 0 = .ok (.aload_n 0, 1) ∧ decode cX10_isWord 1 = .ok (.getfield 202, 3) ∧ decode cX10_isWord 4 = .ok (.iconst 2, 1) ∧ decode cX10_isWord 5 = .ok (.if_icmp .ne 15, 3) ∧ decode cX10_isWord 8 = .ok (.aload_n 0, 1) ∧ decode cX10_isWord 9 = .ok (.getfield 205, 3) ∧ decode cX10_isWord 12 = .ok (.iload_n 1, 1) ∧ decode cX10_isWord 13 = .ok (.if_icmp .ne 7, 3) ∧ decode cX10_isWord 16 = .ok (.iconst 1, 1) ∧ decode cX10_isWord 17 = .ok (.goto 4, 3) ∧ decode cX10_isWord 20 = .ok (.iconst 0, 1) ∧ decode cX10_isWord 21 = .ok (.ireturn, 1) ∧ True := dqC_ok (c := cX10_isWord) [(0, 1, some (.aload_n 0)), (1, 3, some (.getfield 202)), (4, 1, some (.iconst 2)), (5, 3, some (.if_icmp .ne 15)), (8, 1, some (.aload_n 0)), (9, 3, some (.getfield 205)), (12, 1, some (.iload_n 1)), (13, 3, some (.if_icmp .ne 7)), (16, 1, some (.iconst 1)), (17, 3, some (.goto 4)), (20, 1, some (.iconst 0)), (21, 1, some (.ireturn))] _ 0 rfl (by decide +kernel)
theorem dX10_isWord_0 : decode cX10_isWord 0 = .ok (.aload_n 0, 1) := dq_g305.1
theorem dX10_isWord_1 : decode cX10_isWord 1 = .ok (.getfield 202, 3) := dq_g305.2.1
theorem dX10_isWord_4 : decode cX10_isWord 4 = .ok (.iconst 2, 1) := dq_g305.2.2.1
theorem dX10_isWord_5 : decode cX10_isWord 5 = .ok (.if_icmp .ne 15, 3) := dq_g305.2.2.2.1
theorem dX10_isWord_8 : decode cX10_isWord 8 = .ok (.aload_n 0, 1) := dq_g305.2.2.2.2.1
theorem dX10_isWord_9 : decode cX10_isWord 9 = .ok (.getfield 205, 3) := dq_g305.2.2.2.2.2.1
theorem dX10_isWord_12 : decode cX10_isWord 12 = .ok (.iload_n 1, 1) := dq_g305.2.2.2.2.2.2.1
theorem dX10_isWord_13 : decode cX10_isWord 13 = .ok (.if_icmp .ne 7, 3) := dq_g305.2.2.2.2.2.2.2.1
theorem dX10_isWord_16 : decode cX10_isWord 16 = .ok (.iconst 1, 1) := dq_g305.2.2.2.2.2.2.2.2.1
theorem dX10_isWord_17 : decode cX10_isWord 17 = .ok (.goto 4, 3) := dq_g305.2.2.2.2.2.2.2.2.2.1
theorem dX10_isWord_20 : decode cX10_isWord 20 = .ok (.iconst 0, 1) := dq_g305.2.2.2.2.2.2.2.2.2.2.1
theorem dX10_isWord_21 : decode cX10_isWord 21 = .ok (.ireturn, 1) := dq_g305.2.2.2.2.2.2.2.2.2.2.2.1
theorem dq_g306 : decode cX10_isSign 0 = .ok (.aload_n 0, 1) ∧ decode cX10_isSign 1 = .ok (.getfield 202, 3) ∧ decode cX10_isSign 4 = .ok (.iconst 4, 1) ∧ decode cX10_isSign 5 = .ok (.if_icmp .ne 15, 3) ∧ decode cX10_isSign 8 = .ok (.aload_n 0, 1) ∧ decode cX10_isSign 9 = .ok (.getfield 205, 3) ∧ decode cX10_isSign 12 = .ok (.iload_n 1, 1) ∧ decode cX10_isSign 13 = .ok (.if_icmp .ne 7, 3) ∧ decode cX10_isSign 16 = .ok (.iconst 1, 1) ∧ decode cX10_isSign 17 = .ok (.goto 4, 3) ∧ decode cX10_isSign 20 = .ok (.iconst 0, 1) ∧ decode cX10_isSign 21 = .ok (.ireturn, 1) ∧ True := dqC_ok (c := cX10_isSign) [(0, 1, some (.aload_n 0)), (1, 3, some (.getfield 202)), (4, 1, some (.iconst 4)), (5, 3, some (.if_icmp .ne 15)), (8, 1, some (.aload_n 0)), (9, 3, some (.getfield 205)), (12, 1, some (.iload_n 1)), (13, 3, some (.if_icmp .ne 7)), (16, 1, some (.iconst 1)), (17, 3, some (.goto 4)), (20, 1, some (.iconst 0)), (21, 1, some (.ireturn))] _ 0 rfl (by decide +kernel)
theorem dX10_isSign_0 : decode cX10_isSign 0 = .ok (.aload_n 0, 1) := dq_g306.1
theorem dX10_isSign_1 : decode cX10_isSign 1 = .ok (.getfield 202, 3) := dq_g306.2.1
theorem dX10_isSign_4 : decode cX10_isSign 4 = .ok (.iconst 4, 1) := dq_g306.2.2.1
theorem dX10_isSign_5 : decode cX10_isSign 5 = .ok (.if_icmp .ne 15, 3) := dq_g306.2.2.2.1
theorem dX10_isSign_8 : decode cX10_isSign 8 = .ok (.aload_n 0, 1) := dq_g306.2.2.2.2.1
theorem dX10_isSign_9 : decode cX10_isSign 9 = .ok (.getfield 205, 3) := dq_g306.2.2.2.2.2.1
theorem dX10_isSign_12 : decode cX10_isSign 12 = .ok (.iload_n 1, 1) := dq_g306.2.2.2.2.2.2.1
theorem dX10_isSign_13 : decode cX10_isSign 13 = .ok (.if_icmp .ne 7, 3) := dq_g306.2.2.2.2.2.2.2.1
theorem dX10_isSign_16 : decode cX10_isSign 16 = .ok (.iconst 1, 1) := dq_g306.2.2.2.2.2.2.2.2.1
theorem dX10_isSign_17 : decode cX10_isSign 17 = .ok (.goto 4, 3) := dq_g306.2.2.2.2.2.2.2.2.2.1
theorem dX10_isSign_20 : decode cX10_isSign 20 = .ok (.iconst 0, 1) := dq_g306.2.2.2.2.2.2.2.2.2.2.1
theorem dX10_isSign_21 : decode cX10_isSign 21 = .ok (.ireturn, 1) := dq_g306.2.2.2.2.2.2.2.2.2.2.2.1
theorem dq_g307 : decode cX10_emits 0 = .ok (.aload_n 0, 1) ∧ decode cX10_emits 1 = .ok (.getfield 83, 3) ∧ decode cX10_emits 4 = .ok (.sipush 3000, 3) ∧ decode cX10_emits 7 = .ok (.aload_n 0, 1) ∧ decode cX10_emits 8 = .ok (.getfield 228, 3) ∧ decode cX10_emits 11 = .ok (.iadd, 1) ∧ decode cX10_emits 12 = .ok (.iload_n 1, 1) ∧ decode cX10_emits 13 = .ok (.iastore, 1) ∧ decode cX10_emits 14 = .ok (.aload_n 0, 1) ∧ decode cX10_emits 15 = .ok (.getfield 86, 3) ∧ decode cX10_emits 18 = .ok (.sipush 3000, 3) ∧ decode cX10_emits 21 = .ok (.aload_n 0, 1) ∧ decode cX10_emits 22 = .ok (.getfield 228, 3) ∧ decode cX10_emits 25 = .ok (.iadd, 1) ∧ decode cX10_emits 26 = .ok (.iload_n 2, 1) ∧ decode cX10_emits 27 = .ok (.iastore, 1) ∧ decode cX10_emits 28 = .ok (.aload_n 0, 1) ∧ decode cX10_emits 29 = .ok (.aload_n 0, 1) ∧ decode cX10_emits 30 = .ok (.getfield 228, 3) ∧ decode cX10_emits 33 = .ok (.iconst 1, 1) ∧ decode cX10_emits 34 = .ok (.iadd, 1) ∧ decode cX10_emits 35 = .ok (.putfield 228, 3) ∧ decode cX10_emits 38 = .ok (.return_, 1) ∧ True := dqC_ok (c := cX10_emits) [(0, 1, some (.aload_n 0)), (1, 3, some (.getfield 83)), (4, 3, some (.sipush 3000)), (7, 1, some (.aload_n 0)), (8, 3, some (.getfield 228)), (11, 1, some (.iadd)), (12, 1, some (.iload_n 1)), (13, 1, some (.iastore)), (14, 1, some (.aload_n 0)), (15, 3, some (.getfield 86)), (18, 3, some (.sipush 3000)), (21, 1, some (.aload_n 0)), (22, 3, some (.getfield 228)), (25, 1, some (.iadd)), (26, 1, some (.iload_n 2)), (27, 1, some (.iastore)), (28, 1, some (.aload_n 0)), (29, 1, some (.aload_n 0)), (30, 3, some (.getfield 228)), (33, 1, some (.iconst 1)), (34, 1, some (.iadd)), (35, 3, some (.putfield 228)), (38, 1, some (.return_))] _ 0 rfl (by decide +kernel)
theorem dX10_emits_0 : decode cX10_emits 0 = .ok (.aload_n 0, 1) := dq_g307.1
theorem dX10_emits_1 : decode cX10_emits 1 = .ok (.getfield 83, 3) := dq_g307.2.1
theorem dX10_emits_4 : decode cX10_emits 4 = .ok (.sipush 3000, 3) := dq_g307.2.2.1
theorem dX10_emits_7 : decode cX10_emits 7 = .ok (.aload_n 0, 1) := dq_g307.2.2.2.1
theorem dX10_emits_8 : decode cX10_emits 8 = .ok (.getfield 228, 3) := dq_g307.2.2.2.2.1
theorem dX10_emits_11 : decode cX10_emits 11 = .ok (.iadd, 1) := dq_g307.2.2.2.2.2.1
theorem dX10_emits_12 : decode cX10_emits 12 = .ok (.iload_n 1, 1) := dq_g307.2.2.2.2.2.2.1
theorem dX10_emits_13 : decode cX10_emits 13 = .ok (.iastore, 1) := dq_g307.2.2.2.2.2.2.2.1
theorem dX10_emits_14 : decode cX10_emits 14 = .ok (.aload_n 0, 1) := dq_g307.2.2.2.2.2.2.2.2.1
theorem dX10_emits_15 : decode cX10_emits 15 = .ok (.getfield 86, 3) := dq_g307.2.2.2.2.2.2.2.2.2.1
theorem dX10_emits_18 : decode cX10_emits 18 = .ok (.sipush 3000, 3) := dq_g307.2.2.2.2.2.2.2.2.2.2.1
theorem dX10_emits_21 : decode cX10_emits 21 = .ok (.aload_n 0, 1) := dq_g307.2.2.2.2.2.2.2.2.2.2.2.1
theorem dX10_emits_22 : decode cX10_emits 22 = .ok (.getfield 228, 3) := dq_g307.2.2.2.2.2.2.2.2.2.2.2.2.1
theorem dX10_emits_25 : decode cX10_emits 25 = .ok (.iadd, 1) := dq_g307.2.2.2.2.2.2.2.2.2.2.2.2.2.1
theorem dX10_emits_26 : decode cX10_emits 26 = .ok (.iload_n 2, 1) := dq_g307.2.2.2.2.2.2.2.2.2.2.2.2.2.2.1
theorem dX10_emits_27 : decode cX10_emits 27 = .ok (.iastore, 1) := dq_g307.2.2.2.2.2.2.2.2.2.2.2.2.2.2.2.1
theorem dX10_emits_28 : decode cX10_emits 28 = .ok (.aload_n 0, 1) := dq_g307.2.2.2.2.2.2.2.2.2.2.2.2.2.2.2.2.1
theorem dX10_emits_29 : decode cX10_emits 29 = .ok (.aload_n 0, 1) := dq_g307.2.2.2.2.2.2.2.2.2.2.2.2.2.2.2.2.2.1
theorem dX10_emits_30 : decode cX10_emits 30 = .ok (.getfield 228, 3) := dq_g307.2.2.2.2.2.2.2.2.2.2.2.2.2.2.2.2.2.2.1
theorem dX10_emits_33 : decode cX10_emits 33 = .ok (.iconst 1, 1) := dq_g307.2.2.2.2.2.2.2.2.2.2.2.2.2.2.2.2.2.2.2.1
theorem dX10_emits_34 : decode cX10_emits 34 = .ok (.iadd, 1) := dq_g307.2.2.2.2.2.2.2.2.2.2.2.2.2.2.2.2.2.2.2.2.1
theorem dX10_emits_35 : decode cX10_emits 35 = .ok (.putfield 228, 3) := dq_g307.2.2.2.2.2.2.2.2.2.2.2.2.2.2.2.2.2.2.2.2.2.1
theorem dX10_emits_38 : decode cX10_emits 38 = .ok (.return_, 1) := dq_g307.2.2.2.2.2.2.2.2.2.2.2.2.2.2.2.2.2.2.2.2.2.2.1
theorem dq_g308 : decode cX10_readUnit 0 = .ok (.aload_n 0, 1) ∧ decode cX10_readUnit 1 = .ok (.getfield 202, 3) ∧ decode cX10_readUnit 4 = .ok (.iconst 2, 1) ∧ decode cX10_readUnit 5 = .ok (.if_icmp .ne 41, 3) ∧ decode cX10_readUnit 8 = .ok (.aload_n 0, 1) ∧ decode cX10_readUnit 9 = .ok (.getfield 231, 3) ∧ decode cX10_readUnit 12 = .ok (.ifCond .eq 15, 3) ∧ decode cX10_readUnit 15 = .ok (.aload_n 0, 1) ∧ decode cX10_readUnit 16 = .ok (.getfield 205, 3) ∧ decode cX10_readUnit 19 = .ok (.bipush 20, 2) ∧ decode cX10_readUnit 21 = .ok (.if_icmp .lt 25, 3) ∧ decode cX10_readUnit 24 = .ok (.goto 18, 3) ∧ decode cX10_readUnit 27 = .ok (.aload_n 0, 1) ∧ decode cX10_readUnit 28 = .ok (.aload_n 0, 1) ∧ decode cX10_readUnit 29 = .ok (.getfield 205, 3) ∧ decode cX10_readUnit 32 = .ok (.bipush 10, 2) ∧ decode cX10_readUnit 34 = .ok (.bipush 19, 2) ∧ decode cX10_readUnit 36 = .ok (.invokevirtual 177, 3) ∧ decode cX10_readUnit 39 = .ok (.ifCond .eq 7, 3) ∧ decode cX10_readUnit 42 = .ok (.iconst 1, 1) ∧ decode cX10_readUnit 43 = .ok (.goto 4, 3) ∧ decode cX10_readUnit 46 = .ok (.iconst 0, 1) ∧ decode cX10_readUnit 47 = .ok (.istore_n 1, 1) ∧ decode cX10_readUnit 48 = .ok (.iload_n 1, 1) ∧ decode cX10_readUnit 49 = .ok (.ifCond .ne 17, 3) ∧ decode cX10_readUnit 52 = .ok (.aload_n 0, 1) ∧ decode cX10_readUnit 53 = .ok (.getfield 202, 3) ∧ decode cX10_readUnit 56 = .ok (.iconst 3, 1) ∧ decode cX10_readUnit 57 = .ok (.if_icmp .eq 9, 3) ∧ decode cX10_readUnit 60 = .ok (.aload_n 0, 1) ∧ True := dqC_ok (c := cX10_readUnit) [(0, 1, some (.aload_n 0)), (1, 3, some (.getfield 202)), (4, 1, some (.iconst 2)), (5, 3, some (.if_icmp .ne 41)), (8, 1, some (.aload_n 0)), (9, 3, some (.getfield 231)), (12, 3, some (.ifCond .eq 15)), (15, 1, some (.aload_n 0)), (16, 3, some (.getfield 205)), (19, 2, some (.bipush 20)), (21, 3, some (.if_icmp .lt 25)), (24, 3, some (.goto 18)), (27, 1, some (.aload_n 0)), (28, 1, some (.aload_n 0)), (29, 3, some (.getfield 205)), (32, 2, some (.bipush 10)), (34, 2, some (.bipush 19)), (36, 3, some (.invokevirtual 177)), (39, 3, some (.ifCond .eq 7)), (42, 1, some (.iconst 1)), (43, 3, some (.goto 4)), (46, 1, some (.iconst 0)), (47, 1, some (.istore_n 1)), (48, 1, some (.iload_n 1)), (49, 3, some (.ifCond .ne 17)), (52, 1, some (.aload_n 0)), (53, 3, some (.getfield 202)), (56, 1, some (.iconst 3)), (57, 3, some (.if_icmp .eq 9)), (60, 1, some (.aload_n 0))] _ 0 rfl (by decide +kernel)
theorem dX10_readUnit_0 : decode cX10_readUnit 0 = .ok (.aload_n 0, 1) := dq_g308.1
theorem dX10_readUnit_1 : decode cX10_readUnit 1 = .ok (.getfield 202, 3) := dq_g308.2.1
theorem dX10_readUnit_4 : decode cX10_readUnit 4 = .ok (.iconst 2, 1) := dq_g308.2.2.1
theorem dX10_readUnit_5 : decode cX10_readUnit 5 = .ok (.if_icmp .ne 41, 3) := dq_g308.2.2.2.1
theorem dX10_readUnit_8 : decode cX10_readUnit 8 = .ok (.aload_n 0, 1) := dq_g308.2.2.2.2.1
theorem dX10_readUnit_9 : decode cX10_readUnit 9 = .ok (.getfield 231, 3) := dq_g308.2.2.2.2.2.1
theorem dX10_readUnit_12 : decode cX10_readUnit 12 = .ok (.ifCond .eq 15, 3) := dq_g308.2.2.2.2.2.2.1
theorem dX10_readUnit_15 : decode cX10_readUnit 15 = .ok (.aload_n 0, 1) := dq_g308.2.2.2.2.2.2.2.1
theorem dX10_readUnit_16 : decode cX10_readUnit 16 = .ok (.getfield 205, 3) := dq_g308.2.2.2.2.2.2.2.2.1
theorem dX10_readUnit_19 : decode cX10_readUnit 19 = .ok (.bipush 20, 2) := dq_g308.2.2.2.2.2.2.2.2.2.1
theorem dX10_readUnit_21 : decode cX10_readUnit 21 = .ok (.if_icmp .lt 25, 3) := dq_g308.2.2.2.2.2.2.2.2.2.2.1
theorem dX10_readUnit_24 : decode cX10_readUnit 24 = .ok (.goto 18, 3) := dq_g308.2.2.2.2.2.2.2.2.2.2.2.1
theorem dX10_readUnit_27 : decode cX10_readUnit 27 = .ok (.aload_n 0, 1) := dq_g308.2.2.2.2.2.2.2.2.2.2.2.2.1
theorem dX10_readUnit_28 : decode cX10_readUnit 28 = .ok (.aload_n 0, 1) := dq_g308.2.2.2.2.2.2.2.2.2.2.2.2.2.1
theorem dX10_readUnit_29 : decode cX10_readUnit 29 = .ok (.getfield 205, 3) := dq_g308.2.2.2.2.2.2.2.2.2.2.2.2.2.2.1
theorem dX10_readUnit_32 : decode cX10_readUnit 32 = .ok (.bipush 10, 2) := dq_g308.2.2.2.2.2.2.2.2.2.2.2.2.2.2.2.1
theorem dX10_readUnit_34 : decode cX10_readUnit 34 = .ok (.bipush 19, 2) := dq_g308.2.2.2.2.2.2.2.2.2.2.2.2.2.2.2.2.1
theorem dX10_readUnit_36 : decode cX10_readUnit 36 = .ok (.invokevirtual 177, 3) := dq_g308.2.2.2.2.2.2.2.2.2.2.2.2.2.2.2.2.2.1
theorem dX10_readUnit_39 : decode cX10_readUnit 39 = .ok (.ifCond .eq 7, 3) := dq_g308.2.2.2.2.2.2.2.2.2.2.2.2.2.2.2.2.2.2.1
theorem dX10_readUnit_42 : decode cX10_readUnit 42 = .ok (.iconst 1, 1) := dq_g308.2.2.2.2.2.2.2.2.2.2.2.2.2.2.2.2.2.2.2.1
theorem dX10_readUnit_43 : decode cX10_readUnit 43 = .ok (.goto 4, 3) := dq_g308.2.2.2.2.2.2.2.2.2.2.2.2.2.2.2.2.2.2.2.2.1
theorem dX10_readUnit_46 : decode cX10_readUnit 46 = .ok (.iconst 0, 1) := dq_g308.2.2.2.2.2.2.2.2.2.2.2.2.2.2.2.2.2.2.2.2.2.1
theorem dX10_readUnit_47 : decode cX10_readUnit 47 = .ok (.istore_n 1, 1) := dq_g308.2.2.2.2.2.2.2.2.2.2.2.2.2.2.2.2.2.2.2.2.2.2.1
theorem dX10_readUnit_48 : decode cX10_readUnit 48 = .ok (.iload_n 1, 1) := dq_g308.2.2.2.2.2.2.2.2.2.2.2.2.2.2.2.2.2.2.2.2.2.2.2.1
theorem dX10_readUnit_49 : decode cX10_readUnit 49 = .ok (.ifCond .ne 17, 3) := dq_g308.2.2.2.2.2.2.2.2.2.2.2.2.2.2.2.2.2.2.2.2.2.2.2.2.1
theorem dX10_readUnit_52 : decode cX10_readUnit 52 = .ok (.aload_n 0, 1) := dq_g308.2.2.2.2.2.2.2.2.2.2.2.2.2.2.2.2.2.2.2.2.2.2.2.2.2.1
theorem dX10_readUnit_53 : decode cX10_readUnit 53 = .ok (.getfield 202, 3) := dq_g308.2.2.2.2.2.2.2.2.2.2.2.2.2.2.2.2.2.2.2.2.2.2.2.2.2.2.1
theorem dX10_readUnit_56 : decode cX10_readUnit 56 = .ok (.iconst 3, 1) := dq_g308.2.2.2.2.2.2.2.2.2.2.2.2.2.2.2.2.2.2.2.2.2.2.2.2.2.2.2.1
theorem dX10_readUnit_57 : decode cX10_readUnit 57 = .ok (.if_icmp .eq 9, 3) := dq_g308.2.2.2.2.2.2.2.2.2.2.2.2.2.2.2.2.2.2.2.2.2.2.2.2.2.2.2.2.1
theorem dX10_readUnit_60 : decode cX10_readUnit 60 = .ok (.aload_n 0, 1) := dq_g308.2.2.2.2.2.2.2.2.2.2.2.2.2.2.2.2.2.2.2.2.2.2.2.2.2.2.2.2.2.1
theorem dq_g309 : decode cX10_readUnit 61 = .ok (.iconst 1, 1) ∧ decode cX10_readUnit 62 = .ok (.invokevirtual 235, 3) ∧ decode cX10_readUnit 65 = .ok (.ireturn, 1) ∧ decode cX10_readUnit 66 = .ok (.aload_n 0, 1) ∧ decode cX10_readUnit 67 = .ok (.iload_n 1, 1) ∧ decode cX10_readUnit 68 = .ok (.ifCond .eq 7, 3) ∧ decode cX10_readUnit 71 = .ok (.iconst 1, 1) ∧ decode cX10_readUnit 72 = .ok (.goto 4, 3) ∧ decode cX10_readUnit 75 = .ok (.iconst 0, 1) ∧ decode cX10_readUnit 76 = .ok (.iload_n 1, 1) ∧ decode cX10_readUnit 77 = .ok (.ifCond .eq 13, 3) ∧ decode cX10_readUnit 80 = .ok (.aload_n 0, 1) ∧ decode cX10_readUnit 81 = .ok (.getfield 205, 3) ∧ decode cX10_readUnit 84 = .ok (.bipush 10, 2) ∧ decode cX10_readUnit 86 = .ok (.isub, 1) ∧ decode cX10_readUnit 87 = .ok (.goto 7, 3) ∧ decode cX10_readUnit 90 = .ok (.aload_n 0, 1) ∧ decode cX10_readUnit 91 = .ok (.getfield 205, 3) ∧ decode cX10_readUnit 94 = .ok (.invokevirtual 238, 3) ∧ decode cX10_readUnit 97 = .ok (.aload_n 0, 1) ∧ decode cX10_readUnit 98 = .ok (.invokevirtual 242, 3) ∧ decode cX10_readUnit 101 = .ok (.iconst 0, 1) ∧ decode cX10_readUnit 102 = .ok (.ireturn, 1) ∧ True := dqC_ok (c := cX10_readUnit) [(61, 1, some (.iconst 1)), (62, 3, some (.invokevirtual 235)), (65, 1, some (.ireturn)), (66, 1, some (.aload_n 0)), (67, 1, some (.iload_n 1)), (68, 3, some (.ifCond .eq 7)), (71, 1, some (.iconst 1)), (72, 3, some (.goto 4)), (75, 1, some (.iconst 0)), (76, 1, some (.iload_n 1)), (77, 3, some (.ifCond .eq 13)), (80, 1, some (.aload_n 0)), (81, 3, some (.getfield 205)), (84, 2, some (.bipush 10)), (86, 1, some (.isub)), (87, 3, some (.goto 7)), (90, 1, some (.aload_n 0)), (91, 3, some (.getfield 205)), (94, 3, some (.invokevirtual 238)), (97, 1, some (.aload_n 0)), (98, 3, some (.invokevirtual 242)), (101, 1, some (.iconst 0)), (102, 1, some (.ireturn))] _ 61 rfl (by decide +kernel)
theorem dX10_readUnit_61 : decode cX10_readUnit 61 = .ok (.iconst 1, 1) := dq_g309.1
theorem dX10_readUnit_62 : decode cX10_readUnit 62 = .ok (.invokevirtual 235, 3) := dq_g309.2.1
theorem dX10_readUnit_65 : decode cX10_readUnit 65 = .ok (.ireturn, 1) := dq_g309.2.2.1
theorem dX10_readUnit_66 : decode cX10_readUnit 66 = .ok (.aload_n 0, 1) := dq_g309.2.2.2.1
theorem dX10_readUnit_67 : decode cX10_readUnit 67 = .ok (.iload_n 1, 1) := dq_g309.2.2.2.2.1
theorem dX10_readUnit_68 : decode cX10_readUnit 68 = .ok (.ifCond .eq 7, 3) := dq_g309.2.2.2.2.2.1
theorem dX10_readUnit_71 : decode cX10_readUnit 71 = .ok (.iconst 1, 1) := dq_g309.2.2.2.2.2.2.1
theorem dX10_readUnit_72 : decode cX10_readUnit 72 = .ok (.goto 4, 3) := dq_g309.2.2.2.2.2.2.2.1
theorem dX10_readUnit_75 : decode cX10_readUnit 75 = .ok (.iconst 0, 1) := dq_g309.2.2.2.2.2.2.2.2.1
theorem dX10_readUnit_76 : decode cX10_readUnit 76 = .ok (.iload_n 1, 1) := dq_g309.2.2.2.2.2.2.2.2.2.1
theorem dX10_readUnit_77 : decode cX10_readUnit 77 = .ok (.ifCond .eq 13, 3) := dq_g309.2.2.2.2.2.2.2.2.2.2.1
theorem dX10_readUnit_80 : decode cX10_readUnit 80 = .ok (.aload_n 0, 1) := dq_g309.2.2.2.2.2.2.2.2.2.2.2.1
theorem dX10_readUnit_81 : decode cX10_readUnit 81 = .ok (.getfield 205, 3) := dq_g309.2.2.2.2.2.2.2.2.2.2.2.2.1
theorem dX10_readUnit_84 : decode cX10_readUnit 84 = .ok (.bipush 10, 2) := dq_g309.2.2.2.2.2.2.2.2.2.2.2.2.2.1
theorem dX10_readUnit_86 : decode cX10_readUnit 86 = .ok (.isub, 1) := dq_g309.2.2.2.2.2.2.2.2.2.2.2.2.2.2.1
theorem dX10_readUnit_87 : decode cX10_readUnit 87 = .ok (.goto 7, 3) := dq_g309.2.2.2.2.2.2.2.2.2.2.2.2.2.2.2.1
theorem dX10_readUnit_90 : decode cX10_readUnit 90 = .ok (.aload_n 0, 1) := dq_g309.2.2.2.2.2.2.2.2.2.2.2.2.2.2.2.2.1
theorem dX10_readUnit_91 : decode cX10_readUnit 91 = .ok (.getfield 205, 3) := dq_g309.2.2.2.2.2.2.2.2.2.2.2.2.2.2.2.2.2.1
theorem dX10_readUnit_94 : decode cX10_readUnit 94 = .ok (.invokevirtual 238, 3) := dq_g309.2.2.2.2.2.2.2.2.2.2.2.2.2.2.2.2.2.2.1
theorem dX10_readUnit_97 : decode cX10_readUnit 97 = .ok (.aload_n 0, 1) := dq_g309.2.2.2.2.2.2.2.2.2.2.2.2.2.2.2.2.2.2.2.1
theorem dX10_readUnit_98 : decode cX10_readUnit 98 = .ok (.invokevirtual 242, 3) := dq_g309.2.2.2.2.2.2.2.2.2.2.2.2.2.2.2.2.2.2.2.2.1
theorem dX10_readUnit_101 : decode cX10_readUnit 101 = .ok (.iconst 0, 1) := dq_g309.2.2.2.2.2.2.2.2.2.2.2.2.2.2.2.2.2.2.2.2.2.1
theorem dX10_readUnit_102 : decode cX10_readUnit 102 = .ok (.ireturn, 1) := dq_g309.2.2.2.2.2.2.2.2.2.2.2.2.2.2.2.2.2.2.2.2.2.2.1
theorem dq_g310 : decode cX10_readProduct 0 = .ok (.aload_n 0, 1) ∧ decode cX10_readProduct 1 = .ok (.invokevirtual 245, 3) ∧ decode cX10_readProduct 4 = .ok (.iconst (-1), 1) ∧ decode cX10_readProduct 5 = .ok (.if_icmp .ne 5, 3) ∧ decode cX10_readProduct 8 = .ok (.iconst (-1), 1) ∧ decode cX10_readProduct 9 = .ok (.ireturn, 1) ∧ decode cX10_readProduct 10 = .ok (.aload_n 0, 1) ∧ decode cX10_readProduct 11 = .ok (.bipush 42, 2) ∧ decode cX10_readProduct 13 = .ok (.invokevirtual 249, 3) ∧ decode cX10_readProduct 16 = .ok (.ifCond .ne 12, 3) ∧ decode cX10_readProduct 19 = .ok (.aload_n 0, 1) ∧ decode cX10_readProduct 20 = .ok (.bipush 47, 2) ∧ decode cX10_readProduct 22 = .ok (.invokevirtual 249, 3) ∧ decode cX10_readProduct 25 = .ok (.ifCond .eq 76, 3) ∧ decode cX10_readProduct 28 = .ok (.aload_n 0, 1) ∧ decode cX10_readProduct 29 = .ok (.bipush 42, 2) ∧ decode cX10_readProduct 31 = .ok (.invokevirtual 249, 3) ∧ decode cX10_readProduct 34 = .ok (.istore_n 1, 1) ∧ decode cX10_readProduct 35 = .ok (.aload_n 0, 1) ∧ decode cX10_readProduct 36 = .ok (.invokevirtual 242, 3) ∧ decode cX10_readProduct 39 = .ok (.iload_n 1, 1) ∧ decode cX10_readProduct 40 = .ok (.ifCond .ne 17, 3) ∧ decode cX10_readProduct 43 = .ok (.aload_n 0, 1) ∧ decode cX10_readProduct 44 = .ok (.getfield 202, 3) ∧ decode cX10_readProduct 47 = .ok (.iconst 3, 1) ∧ decode cX10_readProduct 48 = .ok (.if_icmp .eq 9, 3) ∧ decode cX10_readProduct 51 = .ok (.aload_n 0, 1) ∧ decode cX10_readProduct 52 = .ok (.iconst 1, 1) ∧ decode cX10_readProduct 53 = .ok (.invokevirtual 235, 3) ∧ decode cX10_readProduct 56 = .ok (.ireturn, 1) ∧ True := dqC_ok (c := cX10_readProduct) [(0, 1, some (.aload_n 0)), (1, 3, some (.invokevirtual 245)), (4, 1, some (.iconst (-1))), (5, 3, some (.if_icmp .ne 5)), (8, 1, some (.iconst (-1))), (9, 1, some (.ireturn)), (10, 1, some (.aload_n 0)), (11, 2, some (.bipush 42)), (13, 3, some (.invokevirtual 249)), (16, 3, some (.ifCond .ne 12)), (19, 1, some (.aload_n 0)), (20, 2, some (.bipush 47)), (22, 3, some (.invokevirtual 249)), (25, 3, some (.ifCond .eq 76)), (28, 1, some (.aload_n 0)), (29, 2, some (.bipush 42)), (31, 3, some (.invokevirtual 249)), (34, 1, some (.istore_n 1)), (35, 1, some (.aload_n 0)), (36, 3, some (.invokevirtual 242)), (39, 1, some (.iload_n 1)), (40, 3, some (.ifCond .ne 17)), (43, 1, some (.aload_n 0)), (44, 3, some (.getfield 202)), (47, 1, some (.iconst 3)), (48, 3, some (.if_icmp .eq 9)), (51, 1, some (.aload_n 0)), (52, 1, some (.iconst 1)), (53, 3, some (.invokevirtual 235)), (56, 1, some (.ireturn))] _ 0 rfl (by decide +kernel)
theorem dX10_readProduct_0 : decode cX10_readProduct 0 = .ok (.aload_n 0, 1) := dq_g310.1
theorem dX10_readProduct_1 : decode cX10_readProduct 1 = .ok (.invokevirtual 245, 3) := dq_g310.2.1
theorem dX10_readProduct_4 : decode cX10_readProduct 4 = .ok (.iconst (-1), 1) := dq_g310.2.2.1
theorem dX10_readProduct_5 : decode cX10_readProduct 5 = .ok (.if_icmp .ne 5, 3) := dq_g310.2.2.2.1
theorem dX10_readProduct_8 : decode cX10_readProduct 8 = .ok (.iconst (-1), 1) := dq_g310.2.2.2.2.1
theorem dX10_readProduct_9 : decode cX10_readProduct 9 = .ok (.ireturn, 1) := dq_g310.2.2.2.2.2.1
theorem dX10_readProduct_10 : decode cX10_readProduct 10 = .ok (.aload_n 0, 1) := dq_g310.2.2.2.2.2.2.1
theorem dX10_readProduct_11 : decode cX10_readProduct 11 = .ok (.bipush 42, 2) := dq_g310.2.2.2.2.2.2.2.1
theorem dX10_readProduct_13 : decode cX10_readProduct 13 = .ok (.invokevirtual 249, 3) := dq_g310.2.2.2.2.2.2.2.2.1
theorem dX10_readProduct_16 : decode cX10_readProduct 16 = .ok (.ifCond .ne 12, 3) := dq_g310.2.2.2.2.2.2.2.2.2.1
theorem dX10_readProduct_19 : decode cX10_readProduct 19 = .ok (.aload_n 0, 1) := dq_g310.2.2.2.2.2.2.2.2.2.2.1
theorem dX10_readProduct_20 : decode cX10_readProduct 20 = .ok (.bipush 47, 2) := dq_g310.2.2.2.2.2.2.2.2.2.2.2.1
theorem dX10_readProduct_22 : decode cX10_readProduct 22 = .ok (.invokevirtual 249, 3) := dq_g310.2.2.2.2.2.2.2.2.2.2.2.2.1
theorem dX10_readProduct_25 : decode cX10_readProduct 25 = .ok (.ifCond .eq 76, 3) := dq_g310.2.2.2.2.2.2.2.2.2.2.2.2.2.1
theorem dX10_readProduct_28 : decode cX10_readProduct 28 = .ok (.aload_n 0, 1) := dq_g310.2.2.2.2.2.2.2.2.2.2.2.2.2.2.1
theorem dX10_readProduct_29 : decode cX10_readProduct 29 = .ok (.bipush 42, 2) := dq_g310.2.2.2.2.2.2.2.2.2.2.2.2.2.2.2.1
theorem dX10_readProduct_31 : decode cX10_readProduct 31 = .ok (.invokevirtual 249, 3) := dq_g310.2.2.2.2.2.2.2.2.2.2.2.2.2.2.2.2.1
theorem dX10_readProduct_34 : decode cX10_readProduct 34 = .ok (.istore_n 1, 1) := dq_g310.2.2.2.2.2.2.2.2.2.2.2.2.2.2.2.2.2.1
theorem dX10_readProduct_35 : decode cX10_readProduct 35 = .ok (.aload_n 0, 1) := dq_g310.2.2.2.2.2.2.2.2.2.2.2.2.2.2.2.2.2.2.1
theorem dX10_readProduct_36 : decode cX10_readProduct 36 = .ok (.invokevirtual 242, 3) := dq_g310.2.2.2.2.2.2.2.2.2.2.2.2.2.2.2.2.2.2.2.1
theorem dX10_readProduct_39 : decode cX10_readProduct 39 = .ok (.iload_n 1, 1) := dq_g310.2.2.2.2.2.2.2.2.2.2.2.2.2.2.2.2.2.2.2.2.1
theorem dX10_readProduct_40 : decode cX10_readProduct 40 = .ok (.ifCond .ne 17, 3) := dq_g310.2.2.2.2.2.2.2.2.2.2.2.2.2.2.2.2.2.2.2.2.2.1
theorem dX10_readProduct_43 : decode cX10_readProduct 43 = .ok (.aload_n 0, 1) := dq_g310.2.2.2.2.2.2.2.2.2.2.2.2.2.2.2.2.2.2.2.2.2.2.1
theorem dX10_readProduct_44 : decode cX10_readProduct 44 = .ok (.getfield 202, 3) := dq_g310.2.2.2.2.2.2.2.2.2.2.2.2.2.2.2.2.2.2.2.2.2.2.2.1
theorem dX10_readProduct_47 : decode cX10_readProduct 47 = .ok (.iconst 3, 1) := dq_g310.2.2.2.2.2.2.2.2.2.2.2.2.2.2.2.2.2.2.2.2.2.2.2.2.1
theorem dX10_readProduct_48 : decode cX10_readProduct 48 = .ok (.if_icmp .eq 9, 3) := dq_g310.2.2.2.2.2.2.2.2.2.2.2.2.2.2.2.2.2.2.2.2.2.2.2.2.2.1
theorem dX10_readProduct_51 : decode cX10_readProduct 51 = .ok (.aload_n 0, 1) := dq_g310.2.2.2.2.2.2.2.2.2.2.2.2.2.2.2.2.2.2.2.2.2.2.2.2.2.2.1
theorem dX10_readProduct_52 : decode cX10_readProduct 52 = .ok (.iconst 1, 1) := dq_g310.2.2.2.2.2.2.2.2.2.2.2.2.2.2.2.2.2.2.2.2.2.2.2.2.2.2.2.1
theorem dX10_readProduct_53 : decode cX10_readProduct 53 = .ok (.invokevirtual 235, 3) := dq_g310.2.2.2.2.2.2.2.2.2.2.2.2.2.2.2.2.2.2.2.2.2.2.2.2.2.2.2.2.1
theorem dX10_readProduct_56 : decode cX10_readProduct 56 = .ok (.ireturn, 1) := dq_g310.2.2.2.2.2.2.2.2.2.2.2.2.2.2.2.2.2.2.2.2.2.2.2.2.2.2.2.2.2.1
theorem dq_g311 : decode cX10_readProduct 57 = .ok (.iload_n 1, 1) ∧ decode cX10_readProduct 58 = .ok (.ifCond .ne 16, 3) ∧ decode cX10_readProduct 61 = .ok (.aload_n 0, 1) ∧ decode cX10_readProduct 62 = .ok (.getfield 205, 3) ∧ decode cX10_readProduct 65 = .ok (.ifCond .ne 9, 3) ∧ decode cX10_readProduct 68 = .ok (.aload_n 0, 1) ∧ decode cX10_readProduct 69 = .ok (.iconst 2, 1) ∧ decode cX10_readProduct 70 = .ok (.invokevirtual 235, 3) ∧ decode cX10_readProduct 73 = .ok (.ireturn, 1) ∧ decode cX10_readProduct 74 = .ok (.aload_n 0, 1) ∧ decode cX10_readProduct 75 = .ok (.invokevirtual 245, 3) ∧ decode cX10_readProduct 78 = .ok (.iconst (-1), 1) ∧ decode cX10_readProduct 79 = .ok (.if_icmp .ne 5, 3) ∧ decode cX10_readProduct 82 = .ok (.iconst (-1), 1) ∧ decode cX10_readProduct 83 = .ok (.ireturn, 1) ∧ decode cX10_readProduct 84 = .ok (.aload_n 0, 1) ∧ decode cX10_readProduct 85 = .ok (.iload_n 1, 1) ∧ decode cX10_readProduct 86 = .ok (.ifCond .eq 7, 3) ∧ decode cX10_readProduct 89 = .ok (.iconst 4, 1) ∧ decode cX10_readProduct 90 = .ok (.goto 4, 3) ∧ decode cX10_readProduct 93 = .ok (.iconst 5, 1) ∧ decode cX10_readProduct 94 = .ok (.iconst 0, 1) ∧ decode cX10_readProduct 95 = .ok (.invokevirtual 238, 3) ∧ decode cX10_readProduct 98 = .ok (.goto (-88), 3) ∧ decode cX10_readProduct 101 = .ok (.iconst 0, 1) ∧ decode cX10_readProduct 102 = .ok (.ireturn, 1) ∧ True := dqC_ok (c := cX10_readProduct) [(57, 1, some (.iload_n 1)), (58, 3, some (.ifCond .ne 16)), (61, 1, some (.aload_n 0)), (62, 3, some (.getfield 205)), (65, 3, some (.ifCond .ne 9)), (68, 1, some (.aload_n 0)), (69, 1, some (.iconst 2)), (70, 3, some (.invokevirtual 235)), (73, 1, some (.ireturn)), (74, 1, some (.aload_n 0)), (75, 3, some (.invokevirtual 245)), (78, 1, some (.iconst (-1))), (79, 3, some (.if_icmp .ne 5)), (82, 1, some (.iconst (-1))), (83, 1, some (.ireturn)), (84, 1, some (.aload_n 0)), (85, 1, some (.iload_n 1)), (86, 3, some (.ifCond .eq 7)), (89, 1, some (.iconst 4)), (90, 3, some (.goto 4)), (93, 1, some (.iconst 5)), (94, 1, some (.iconst 0)), (95, 3, some (.invokevirtual 238)), (98, 3, some (.goto (-88))), (101, 1, some (.iconst 0)), (102, 1, some (.ireturn))] _ 57 rfl (by decide +kernel)
theorem dX10_readProduct_57 : decode cX10_readProduct 57 = .ok (.iload_n 1, 1) := dq_g311.1
theorem dX10_readProduct_58 : decode cX10_readProduct 58 = .ok (.ifCond .ne 16, 3) := dq_g311.2.1
theorem dX10_readProduct_61 : decode cX10_readProduct 61 = .ok (.aload_n 0, 1) := dq_g311.2.2.1
theorem dX10_readProduct_62 : decode cX10_readProduct 62 = .ok (.getfield 205, 3) := dq_g311.2.2.2.1
theorem dX10_readProduct_65 : decode cX10_readProduct 65 = .ok (.ifCond .ne 9, 3) := dq_g311.2.2.2.2.1
theorem dX10_readProduct_68 : decode cX10_readProduct 68 = .ok (.aload_n 0, 1) := dq_g311.2.2.2.2.2.1
theorem dX10_readProduct_69 : decode cX10_readProduct 69 = .ok (.iconst 2, 1) := dq_g311.2.2.2.2.2.2.1
theorem dX10_readProduct_70 : decode cX10_readProduct 70 = .ok (.invokevirtual 235, 3) := dq_g311.2.2.2.2.2.2.2.1
theorem dX10_readProduct_73 : decode cX10_readProduct 73 = .ok (.ireturn, 1) := dq_g311.2.2.2.2.2.2.2.2.1
theorem dX10_readProduct_74 : decode cX10_readProduct 74 = .ok (.aload_n 0, 1) := dq_g311.2.2.2.2.2.2.2.2.2.1
theorem dX10_readProduct_75 : decode cX10_readProduct 75 = .ok (.invokevirtual 245, 3) := dq_g311.2.2.2.2.2.2.2.2.2.2.1
theorem dX10_readProduct_78 : decode cX10_readProduct 78 = .ok (.iconst (-1), 1) := dq_g311.2.2.2.2.2.2.2.2.2.2.2.1
theorem dX10_readProduct_79 : decode cX10_readProduct 79 = .ok (.if_icmp .ne 5, 3) := dq_g311.2.2.2.2.2.2.2.2.2.2.2.2.1
theorem dX10_readProduct_82 : decode cX10_readProduct 82 = .ok (.iconst (-1), 1) := dq_g311.2.2.2.2.2.2.2.2.2.2.2.2.2.1
theorem dX10_readProduct_83 : decode cX10_readProduct 83 = .ok (.ireturn, 1) := dq_g311.2.2.2.2.2.2.2.2.2.2.2.2.2.2.1
theorem dX10_readProduct_84 : decode cX10_readProduct 84 = .ok (.aload_n 0, 1) := dq_g311.2.2.2.2.2.2.2.2.2.2.2.2.2.2.2.1
theorem dX10_readProduct_85 : decode cX10_readProduct 85 = .ok (.iload_n 1, 1) := dq_g311.2.2.2.2.2.2.2.2.2.2.2.2.2.2.2.2.1
theorem dX10_readProduct_86 : decode cX10_readProduct 86 = .ok (.ifCond .eq 7, 3) := dq_g311.2.2.2.2.2.2.2.2.2.2.2.2.2.2.2.2.2.1
theorem dX10_readProduct_89 : decode cX10_readProduct 89 = .ok (.iconst 4, 1) := dq_g311.2.2.2.2.2.2.2.2.2.2.2.2.2.2.2.2.2.2.1
theorem dX10_readProduct_90 : decode cX10_readProduct 90 = .ok (.goto 4, 3) := dq_g311.2.2.2.2.2.2.2.2.2.2.2.2.2.2.2.2.2.2.2.1
theorem dX10_readProduct_93 : decode cX10_readProduct 93 = .ok (.iconst 5, 1) := dq_g311.2.2.2.2.2.2.2.2.2.2.2.2.2.2.2.2.2.2.2.2.1
theorem dX10_readProduct_94 : decode cX10_readProduct 94 = .ok (.iconst 0, 1) := dq_g311.2.2.2.2.2.2.2.2.2.2.2.2.2.2.2.2.2.2.2.2.2.1
theorem dX10_readProduct_95 : decode cX10_readProduct 95 = .ok (.invokevirtual 238, 3) := dq_g311.2.2.2.2.2.2.2.2.2.2.2.2.2.2.2.2.2.2.2.2.2.2.1
theorem dX10_readProduct_98 : decode cX10_readProduct 98 = .ok (.goto (-88), 3) := dq_g311.2.2.2.2.2.2.2.2.2.2.2.2.2.2.2.2.2.2.2.2.2.2.2.1
theorem dX10_readProduct_101 : decode cX10_readProduct 101 = .ok (.iconst 0, 1) := dq_g311.2.2.2.2.2.2.2.2.2.2.2.2.2.2.2.2.2.2.2.2.2.2.2.2.1
theorem dX10_readProduct_102 : decode cX10_readProduct 102 = .ok (.ireturn, 1) := dq_g311.2.2.2.2.2.2.2.2.2.2.2.2.2.2.2.2.2.2.2.2.2.2.2.2.2.1
theorem dq_g312 : decode cX10_readSum 0 = .ok (.aload_n 0, 1) ∧ decode cX10_readSum 1 = .ok (.invokevirtual 252, 3) ∧ decode cX10_readSum 4 = .ok (.iconst (-1), 1) ∧ decode cX10_readSum 5 = .ok (.if_icmp .ne 5, 3) ∧ decode cX10_readSum 8 = .ok (.iconst (-1), 1) ∧ decode cX10_readSum 9 = .ok (.ireturn, 1) ∧ decode cX10_readSum 10 = .ok (.aload_n 0, 1) ∧ decode cX10_readSum 11 = .ok (.bipush 43, 2) ∧ decode cX10_readSum 13 = .ok (.invokevirtual 249, 3) ∧ decode cX10_readSum 16 = .ok (.ifCond .ne 12, 3) ∧ decode cX10_readSum 19 = .ok (.aload_n 0, 1) ∧ decode cX10_readSum 20 = .ok (.bipush 45, 2) ∧ decode cX10_readSum 22 = .ok (.invokevirtual 249, 3) ∧ decode cX10_readSum 25 = .ok (.ifCond .eq 41, 3) ∧ decode cX10_readSum 28 = .ok (.aload_n 0, 1) ∧ decode cX10_readSum 29 = .ok (.getfield 205, 3) ∧ decode cX10_readSum 32 = .ok (.bipush 43, 2) ∧ decode cX10_readSum 34 = .ok (.if_icmp .ne 7, 3) ∧ decode cX10_readSum 37 = .ok (.iconst 2, 1) ∧ decode cX10_readSum 38 = .ok (.goto 4, 3) ∧ decode cX10_readSum 41 = .ok (.iconst 3, 1) ∧ decode cX10_readSum 42 = .ok (.istore_n 1, 1) ∧ decode cX10_readSum 43 = .ok (.aload_n 0, 1) ∧ decode cX10_readSum 44 = .ok (.invokevirtual 242, 3) ∧ decode cX10_readSum 47 = .ok (.aload_n 0, 1) ∧ decode cX10_readSum 48 = .ok (.invokevirtual 252, 3) ∧ decode cX10_readSum 51 = .ok (.iconst (-1), 1) ∧ decode cX10_readSum 52 = .ok (.if_icmp .ne 5, 3) ∧ decode cX10_readSum 55 = .ok (.iconst (-1), 1) ∧ decode cX10_readSum 56 = .ok (.ireturn, 1) ∧ True := dqC_ok (c := cX10_readSum) [(0, 1, some (.aload_n 0)), (1, 3, some (.invokevirtual 252)), (4, 1, some (.iconst (-1))), (5, 3, some (.if_icmp .ne 5)), (8, 1, some (.iconst (-1))), (9, 1, some (.ireturn)), (10, 1, some (.aload_n 0)), (11, 2, some (.bipush 43)), (13, 3, some (.invokevirtual 249)), (16, 3, some (.ifCond .ne 12)), (19, 1, some (.aload_n 0)), (20, 2, some (.bipush 45)), (22, 3, some (.invokevirtual 249)), (25, 3, some (.ifCond .eq 41)), (28, 1, some (.aload_n 0)), (29, 3, some (.getfield 205)), (32, 2, some (.bipush 43)), (34, 3, some (.if_icmp .ne 7)), (37, 1, some (.iconst 2)), (38, 3, some (.goto 4)), (41, 1, some (.iconst 3)), (42, 1, some (.istore_n 1)), (43, 1, some (.aload_n 0)), (44, 3, some (.invokevirtual 242)), (47, 1, some (.aload_n 0)), (48, 3, some (.invokevirtual 252)), (51, 1, some (.iconst (-1))), (52, 3, some (.if_icmp .ne 5)), (55, 1, some (.iconst (-1))), (56, 1, some (.ireturn))] _ 0 rfl (by decide +kernel)
theorem dX10_readSum_0 : decode cX10_readSum 0 = .ok (.aload_n 0, 1) := dq_g312.1
theorem dX10_readSum_1 : decode cX10_readSum 1 = .ok (.invokevirtual 252, 3) := dq_g312.2.1
theorem dX10_readSum_4 : decode cX10_readSum 4 = .ok (.iconst (-1), 1) := dq_g312.2.2.1
theorem dX10_readSum_5 : decode cX10_readSum 5 = .ok (.if_icmp .ne 5, 3) := dq_g312.2.2.2.1
theorem dX10_readSum_8 : decode cX10_readSum 8 = .ok (.iconst (-1), 1) := dq_g312.2.2.2.2.1
theorem dX10_readSum_9 : decode cX10_readSum 9 = .ok (.ireturn, 1) := dq_g312.2.2.2.2.2.1
theorem dX10_readSum_10 : decode cX10_readSum 10 = .ok (.aload_n 0, 1) := dq_g312.2.2.2.2.2.2.1
theorem dX10_readSum_11 : decode cX10_readSum 11 = .ok (.bipush 43, 2) := dq_g312.2.2.2.2.2.2.2.1
theorem dX10_readSum_13 : decode cX10_readSum 13 = .ok (.invokevirtual 249, 3) := dq_g312.2.2.2.2.2.2.2.2.1
theorem dX10_readSum_16 : decode cX10_readSum 16 = .ok (.ifCond .ne 12, 3) := dq_g312.2.2.2.2.2.2.2.2.2.1
theorem dX10_readSum_19 : decode cX10_readSum 19 = .ok (.aload_n 0, 1) := dq_g312.2.2.2.2.2.2.2.2.2.2.1
theorem dX10_readSum_20 : decode cX10_readSum 20 = .ok (.bipush 45, 2) := dq_g312.2.2.2.2.2.2.2.2.2.2.2.1
theorem dX10_readSum_22 : decode cX10_readSum 22 = .ok (.invokevirtual 249, 3) := dq_g312.2.2.2.2.2.2.2.2.2.2.2.2.1
theorem dX10_readSum_25 : decode cX10_readSum 25 = .ok (.ifCond .eq 41, 3) := dq_g312.2.2.2.2.2.2.2.2.2.2.2.2.2.1
theorem dX10_readSum_28 : decode cX10_readSum 28 = .ok (.aload_n 0, 1) := dq_g312.2.2.2.2.2.2.2.2.2.2.2.2.2.2.1
theorem dX10_readSum_29 : decode cX10_readSum 29 = .ok (.getfield 205, 3) := dq_g312.2.2.2.2.2.2.2.2.2.2.2.2.2.2.2.1
theorem dX10_readSum_32 : decode cX10_readSum 32 = .ok (.bipush 43, 2) := dq_g312.2.2.2.2.2.2.2.2.2.2.2.2.2.2.2.2.1
theorem dX10_readSum_34 : decode cX10_readSum 34 = .ok (.if_icmp .ne 7, 3) := dq_g312.2.2.2.2.2.2.2.2.2.2.2.2.2.2.2.2.2.1
theorem dX10_readSum_37 : decode cX10_readSum 37 = .ok (.iconst 2, 1) := dq_g312.2.2.2.2.2.2.2.2.2.2.2.2.2.2.2.2.2.2.1
theorem dX10_readSum_38 : decode cX10_readSum 38 = .ok (.goto 4, 3) := dq_g312.2.2.2.2.2.2.2.2.2.2.2.2.2.2.2.2.2.2.2.1
theorem dX10_readSum_41 : decode cX10_readSum 41 = .ok (.iconst 3, 1) := dq_g312.2.2.2.2.2.2.2.2.2.2.2.2.2.2.2.2.2.2.2.2.1
theorem dX10_readSum_42 : decode cX10_readSum 42 = .ok (.istore_n 1, 1) := dq_g312.2.2.2.2.2.2.2.2.2.2.2.2.2.2.2.2.2.2.2.2.2.1
theorem dX10_readSum_43 : decode cX10_readSum 43 = .ok (.aload_n 0, 1) := dq_g312.2.2.2.2.2.2.2.2.2.2.2.2.2.2.2.2.2.2.2.2.2.2.1
theorem dX10_readSum_44 : decode cX10_readSum 44 = .ok (.invokevirtual 242, 3) := dq_g312.2.2.2.2.2.2.2.2.2.2.2.2.2.2.2.2.2.2.2.2.2.2.2.1
theorem dX10_readSum_47 : decode cX10_readSum 47 = .ok (.aload_n 0, 1) := dq_g312.2.2.2.2.2.2.2.2.2.2.2.2.2.2.2.2.2.2.2.2.2.2.2.2.1
theorem dX10_readSum_48 : decode cX10_readSum 48 = .ok (.invokevirtual 252, 3) := dq_g312.2.2.2.2.2.2.2.2.2.2.2.2.2.2.2.2.2.2.2.2.2.2.2.2.2.1
theorem dX10_readSum_51 : decode cX10_readSum 51 = .ok (.iconst (-1), 1) := dq_g312.2.2.2.2.2.2.2.2.2.2.2.2.2.2.2.2.2.2.2.2.2.2.2.2.2.2.1
theorem dX10_readSum_52 : decode cX10_readSum 52 = .ok (.if_icmp .ne 5, 3) := dq_g312.2.2.2.2.2.2.2.2.2.2.2.2.2.2.2.2.2.2.2.2.2.2.2.2.2.2.2.1
theorem dX10_readSum_55 : decode cX10_readSum 55 = .ok (.iconst (-1), 1) := dq_g312.2.2.2.2.2.2.2.2.2.2.2.2.2.2.2.2.2.2.2.2.2.2.2.2.2.2.2.2.1
theorem dX10_readSum_56 : decode cX10_readSum 56 = .ok (.ireturn, 1) := dq_g312.2.2.2.2.2.2.2.2.2.2.2.2.2.2.2.2.2.2.2.2.2.2.2.2.2.2.2.2.2.1
theorem dq_g313 : decode cX10_readSum 57 = .ok (.aload_n 0, 1) ∧ decode cX10_readSum 58 = .ok (.iload_n 1, 1) ∧ decode cX10_readSum 59 = .ok (.iconst 0, 1) ∧ decode cX10_readSum 60 = .ok (.invokevirtual 238, 3) ∧ decode cX10_readSum 63 = .ok (.goto (-53), 3) ∧ decode cX10_readSum 66 = .ok (.iconst 0, 1) ∧ decode cX10_readSum 67 = .ok (.ireturn, 1) ∧ True := dqC_ok (c := cX10_readSum) [(57, 1, some (.aload_n 0)), (58, 1, some (.iload_n 1)), (59, 1, some (.iconst 0)), (60, 3, some (.invokevirtual 238)), (63, 3, some (.goto (-53))), (66, 1, some (.iconst 0)), (67, 1, some (.ireturn))] _ 57 rfl (by decide +kernel)
theorem dX10_readSum_57 : decode cX10_readSum 57 = .ok (.aload_n 0, 1) := dq_g313.1
theorem dX10_readSum_58 : decode cX10_readSum 58 = .ok (.iload_n 1, 1) := dq_g313.2.1
theorem dX10_readSum_59 : decode cX10_readSum 59 = .ok (.iconst 0, 1) := dq_g313.2.2.1
theorem dX10_readSum_60 : decode cX10_readSum 60 = .ok (.invokevirtual 238, 3) := dq_g313.2.2.2.1
theorem dX10_readSum_63 : decode cX10_readSum 63 = .ok (.goto (-53), 3) := dq_g313.2.2.2.2.1
theorem dX10_readSum_66 : decode cX10_readSum 66 = .ok (.iconst 0, 1) := dq_g313.2.2.2.2.2.1
theorem dX10_readSum_67 : decode cX10_readSum 67 = .ok (.ireturn, 1) := dq_g313.2.2.2.2.2.2.1
theorem dq_g314 : decode cX10_readCompared 0 = .ok (.aload_n 0, 1) ∧ decode cX10_readCompared 1 = .ok (.invokevirtual 255, 3) ∧ decode cX10_readCompared 4 = .ok (.iconst (-1), 1) ∧ decode cX10_readCompared 5 = .ok (.if_icmp .ne 5, 3) ∧ decode cX10_readCompared 8 = .ok (.iconst (-1), 1) ∧ decode cX10_readCompared 9 = .ok (.ireturn, 1) ∧ decode cX10_readCompared 10 = .ok (.aload_n 0, 1) ∧ decode cX10_readCompared 11 = .ok (.bipush 60, 2) ∧ decode cX10_readCompared 13 = .ok (.invokevirtual 249, 3) ∧ decode cX10_readCompared 16 = .ok (.ifCond .ne 27, 3) ∧ decode cX10_readCompared 19 = .ok (.aload_n 0, 1) ∧ decode cX10_readCompared 20 = .ok (.bipush 61, 2) ∧ decode cX10_readCompared 22 = .ok (.invokevirtual 249, 3) ∧ decode cX10_readCompared 25 = .ok (.ifCond .ne 18, 3) ∧ decode cX10_readCompared 28 = .ok (.aload_n 0, 1) ∧ decode cX10_readCompared 29 = .ok (.bipush 62, 2) ∧ decode cX10_readCompared 31 = .ok (.invokevirtual 249, 3) ∧ decode cX10_readCompared 34 = .ok (.ifCond .ne 9, 3) ∧ decode cX10_readCompared 37 = .ok (.aload_n 0, 1) ∧ decode cX10_readCompared 38 = .ok (.iconst 1, 1) ∧ decode cX10_readCompared 39 = .ok (.invokevirtual 235, 3) ∧ decode cX10_readCompared 42 = .ok (.ireturn, 1) ∧ decode cX10_readCompared 43 = .ok (.aload_n 0, 1) ∧ decode cX10_readCompared 44 = .ok (.getfield 205, 3) ∧ decode cX10_readCompared 47 = .ok (.bipush 60, 2) ∧ decode cX10_readCompared 49 = .ok (.if_icmp .ne 8, 3) ∧ decode cX10_readCompared 52 = .ok (.bipush 6, 2) ∧ decode cX10_readCompared 54 = .ok (.goto 19, 3) ∧ decode cX10_readCompared 57 = .ok (.aload_n 0, 1) ∧ decode cX10_readCompared 58 = .ok (.getfield 205, 3) ∧ True := dqC_ok (c := cX10_readCompared) [(0, 1, some (.aload_n 0)), (1, 3, some (.invokevirtual 255)), (4, 1, some (.iconst (-1))), (5, 3, some (.if_icmp .ne 5)), (8, 1, some (.iconst (-1))), (9, 1, some (.ireturn)), (10, 1, some (.aload_n 0)), (11, 2, some (.bipush 60)), (13, 3, some (.invokevirtual 249)), (16, 3, some (.ifCond .ne 27)), (19, 1, some (.aload_n 0)), (20, 2, some (.bipush 61)), (22, 3, some (.invokevirtual 249)), (25, 3, some (.ifCond .ne 18)), (28, 1, some (.aload_n 0)), (29, 2, some (.bipush 62)), (31, 3, some (.invokevirtual 249)), (34, 3, some (.ifCond .ne 9)), (37, 1, some (.aload_n 0)), (38, 1, some (.iconst 1)), (39, 3, some (.invokevirtual 235)), (42, 1, some (.ireturn)), (43, 1, some (.aload_n 0)), (44, 3, some (.getfield 205)), (47, 2, some (.bipush 60)), (49, 3, some (.if_icmp .ne 8)), (52, 2, some (.bipush 6)), (54, 3, some (.goto 19)), (57, 1, some (.aload_n 0)), (58, 3, some (.getfield 205))] _ 0 rfl (by decide +kernel)
theorem dX10_readCompared_0 : decode cX10_readCompared 0 = .ok (.aload_n 0, 1) := dq_g314.1
theorem dX10_readCompared_1 : decode cX10_readCompared 1 = .ok (.invokevirtual 255, 3) := dq_g314.2.1
theorem dX10_readCompared_4 : decode cX10_readCompared 4 = .ok (.iconst (-1), 1) := dq_g314.2.2.1
theorem dX10_readCompared_5 : decode cX10_readCompared 5 = .ok (.if_icmp .ne 5, 3) := dq_g314.2.2.2.1
theorem dX10_readCompared_8 : decode cX10_readCompared 8 = .ok (.iconst (-1), 1) := dq_g314.2.2.2.2.1
theorem dX10_readCompared_9 : decode cX10_readCompared 9 = .ok (.ireturn, 1) := dq_g314.2.2.2.2.2.1
theorem dX10_readCompared_10 : decode cX10_readCompared 10 = .ok (.aload_n 0, 1) := dq_g314.2.2.2.2.2.2.1
theorem dX10_readCompared_11 : decode cX10_readCompared 11 = .ok (.bipush 60, 2) := dq_g314.2.2.2.2.2.2.2.1
theorem dX10_readCompared_13 : decode cX10_readCompared 13 = .ok (.invokevirtual 249, 3) := dq_g314.2.2.2.2.2.2.2.2.1
theorem dX10_readCompared_16 : decode cX10_readCompared 16 = .ok (.ifCond .ne 27, 3) := dq_g314.2.2.2.2.2.2.2.2.2.1
theorem dX10_readCompared_19 : decode cX10_readCompared 19 = .ok (.aload_n 0, 1) := dq_g314.2.2.2.2.2.2.2.2.2.2.1
theorem dX10_readCompared_20 : decode cX10_readCompared 20 = .ok (.bipush 61, 2) := dq_g314.2.2.2.2.2.2.2.2.2.2.2.1
theorem dX10_readCompared_22 : decode cX10_readCompared 22 = .ok (.invokevirtual 249, 3) := dq_g314.2.2.2.2.2.2.2.2.2.2.2.2.1
theorem dX10_readCompared_25 : decode cX10_readCompared 25 = .ok (.ifCond .ne 18, 3) := dq_g314.2.2.2.2.2.2.2.2.2.2.2.2.2.1
theorem dX10_readCompared_28 : decode cX10_readCompared 28 = .ok (.aload_n 0, 1) := dq_g314.2.2.2.2.2.2.2.2.2.2.2.2.2.2.1
theorem dX10_readCompared_29 : decode cX10_readCompared 29 = .ok (.bipush 62, 2) := dq_g314.2.2.2.2.2.2.2.2.2.2.2.2.2.2.2.1
theorem dX10_readCompared_31 : decode cX10_readCompared 31 = .ok (.invokevirtual 249, 3) := dq_g314.2.2.2.2.2.2.2.2.2.2.2.2.2.2.2.2.1
theorem dX10_readCompared_34 : decode cX10_readCompared 34 = .ok (.ifCond .ne 9, 3) := dq_g314.2.2.2.2.2.2.2.2.2.2.2.2.2.2.2.2.2.1
theorem dX10_readCompared_37 : decode cX10_readCompared 37 = .ok (.aload_n 0, 1) := dq_g314.2.2.2.2.2.2.2.2.2.2.2.2.2.2.2.2.2.2.1
theorem dX10_readCompared_38 : decode cX10_readCompared 38 = .ok (.iconst 1, 1) := dq_g314.2.2.2.2.2.2.2.2.2.2.2.2.2.2.2.2.2.2.2.1
theorem dX10_readCompared_39 : decode cX10_readCompared 39 = .ok (.invokevirtual 235, 3) := dq_g314.2.2.2.2.2.2.2.2.2.2.2.2.2.2.2.2.2.2.2.2.1
theorem dX10_readCompared_42 : decode cX10_readCompared 42 = .ok (.ireturn, 1) := dq_g314.2.2.2.2.2.2.2.2.2.2.2.2.2.2.2.2.2.2.2.2.2.1
theorem dX10_readCompared_43 : decode cX10_readCompared 43 = .ok (.aload_n 0, 1) := dq_g314.2.2.2.2.2.2.2.2.2.2.2.2.2.2.2.2.2.2.2.2.2.2.1
theorem dX10_readCompared_44 : decode cX10_readCompared 44 = .ok (.getfield 205, 3) := dq_g314.2.2.2.2.2.2.2.2.2.2.2.2.2.2.2.2.2.2.2.2.2.2.2.1
theorem dX10_readCompared_47 : decode cX10_readCompared 47 = .ok (.bipush 60, 2) := dq_g314.2.2.2.2.2.2.2.2.2.2.2.2.2.2.2.2.2.2.2.2.2.2.2.2.1
theorem dX10_readCompared_49 : decode cX10_readCompared 49 = .ok (.if_icmp .ne 8, 3) := dq_g314.2.2.2.2.2.2.2.2.2.2.2.2.2.2.2.2.2.2.2.2.2.2.2.2.2.1
theorem dX10_readCompared_52 : decode cX10_readCompared 52 = .ok (.bipush 6, 2) := dq_g314.2.2.2.2.2.2.2.2.2.2.2.2.2.2.2.2.2.2.2.2.2.2.2.2.2.2.1
theorem dX10_readCompared_54 : decode cX10_readCompared 54 = .ok (.goto 19, 3) := dq_g314.2.2.2.2.2.2.2.2.2.2.2.2.2.2.2.2.2.2.2.2.2.2.2.2.2.2.2.1
theorem dX10_readCompared_57 : decode cX10_readCompared 57 = .ok (.aload_n 0, 1) := dq_g314.2.2.2.2.2.2.2.2.2.2.2.2.2.2.2.2.2.2.2.2.2.2.2.2.2.2.2.2.1
theorem dX10_readCompared_58 : decode cX10_readCompared 58 = .ok (.getfield 205, 3) := dq_g314.2.2.2.2.2.2.2.2.2.2.2.2.2.2.2.2.2.2.2.2.2.2.2.2.2.2.2.2.2.1
theorem dq_g315 : decode cX10_readCompared 61 = .ok (.bipush 61, 2) ∧ decode cX10_readCompared 63 = .ok (.if_icmp .ne 8, 3) ∧ decode cX10_readCompared 66 = .ok (.bipush 7, 2) ∧ decode cX10_readCompared 68 = .ok (.goto 5, 3) ∧ decode cX10_readCompared 71 = .ok (.bipush 8, 2) ∧ decode cX10_readCompared 73 = .ok (.istore_n 1, 1) ∧ decode cX10_readCompared 74 = .ok (.aload_n 0, 1) ∧ decode cX10_readCompared 75 = .ok (.invokevirtual 242, 3) ∧ decode cX10_readCompared 78 = .ok (.aload_n 0, 1) ∧ decode cX10_readCompared 79 = .ok (.invokevirtual 255, 3) ∧ decode cX10_readCompared 82 = .ok (.iconst (-1), 1) ∧ decode cX10_readCompared 83 = .ok (.if_icmp .ne 5, 3) ∧ decode cX10_readCompared 86 = .ok (.iconst (-1), 1) ∧ decode cX10_readCompared 87 = .ok (.ireturn, 1) ∧ decode cX10_readCompared 88 = .ok (.aload_n 0, 1) ∧ decode cX10_readCompared 89 = .ok (.iload_n 1, 1) ∧ decode cX10_readCompared 90 = .ok (.iconst 0, 1) ∧ decode cX10_readCompared 91 = .ok (.invokevirtual 238, 3) ∧ decode cX10_readCompared 94 = .ok (.iconst 0, 1) ∧ decode cX10_readCompared 95 = .ok (.ireturn, 1) ∧ True := dqC_ok (c := cX10_readCompared) [(61, 2, some (.bipush 61)), (63, 3, some (.if_icmp .ne 8)), (66, 2, some (.bipush 7)), (68, 3, some (.goto 5)), (71, 2, some (.bipush 8)), (73, 1, some (.istore_n 1)), (74, 1, some (.aload_n 0)), (75, 3, some (.invokevirtual 242)), (78, 1, some (.aload_n 0)), (79, 3, some (.invokevirtual 255)), (82, 1, some (.iconst (-1))), (83, 3, some (.if_icmp .ne 5)), (86, 1, some (.iconst (-1))), (87, 1, some (.ireturn)), (88, 1, some (.aload_n 0)), (89, 1, some (.iload_n 1)), (90, 1, some (.iconst 0)), (91, 3, some (.invokevirtual 238)), (94, 1, some (.iconst 0)), (95, 1, some (.ireturn))] _ 61 rfl (by decide +kernel)
theorem dX10_readCompared_61 : decode cX10_readCompared 61 = .ok (.bipush 61, 2) := dq_g315.1
theorem dX10_readCompared_63 : decode cX10_readCompared 63 = .ok (.if_icmp .ne 8, 3) := dq_g315.2.1
theorem dX10_readCompared_66 : decode cX10_readCompared 66 = .ok (.bipush 7, 2) := dq_g315.2.2.1
theorem dX10_readCompared_68 : decode cX10_readCompared 68 = .ok (.goto 5, 3) := dq_g315.2.2.2.1
theorem dX10_readCompared_71 : decode cX10_readCompared 71 = .ok (.bipush 8, 2) := dq_g315.2.2.2.2.1
theorem dX10_readCompared_73 : decode cX10_readCompared 73 = .ok (.istore_n 1, 1) := dq_g315.2.2.2.2.2.1
theorem dX10_readCompared_74 : decode cX10_readCompared 74 = .ok (.aload_n 0, 1) := dq_g315.2.2.2.2.2.2.1
theorem dX10_readCompared_75 : decode cX10_readCompared 75 = .ok (.invokevirtual 242, 3) := dq_g315.2.2.2.2.2.2.2.1
theorem dX10_readCompared_78 : decode cX10_readCompared 78 = .ok (.aload_n 0, 1) := dq_g315.2.2.2.2.2.2.2.2.1
theorem dX10_readCompared_79 : decode cX10_readCompared 79 = .ok (.invokevirtual 255, 3) := dq_g315.2.2.2.2.2.2.2.2.2.1
theorem dX10_readCompared_82 : decode cX10_readCompared 82 = .ok (.iconst (-1), 1) := dq_g315.2.2.2.2.2.2.2.2.2.2.1
theorem dX10_readCompared_83 : decode cX10_readCompared 83 = .ok (.if_icmp .ne 5, 3) := dq_g315.2.2.2.2.2.2.2.2.2.2.2.1
theorem dX10_readCompared_86 : decode cX10_readCompared 86 = .ok (.iconst (-1), 1) := dq_g315.2.2.2.2.2.2.2.2.2.2.2.2.1
theorem dX10_readCompared_87 : decode cX10_readCompared 87 = .ok (.ireturn, 1) := dq_g315.2.2.2.2.2.2.2.2.2.2.2.2.2.1
theorem dX10_readCompared_88 : decode cX10_readCompared 88 = .ok (.aload_n 0, 1) := dq_g315.2.2.2.2.2.2.2.2.2.2.2.2.2.2.1
theorem dX10_readCompared_89 : decode cX10_readCompared 89 = .ok (.iload_n 1, 1) := dq_g315.2.2.2.2.2.2.2.2.2.2.2.2.2.2.2.1
theorem dX10_readCompared_90 : decode cX10_readCompared 90 = .ok (.iconst 0, 1) := dq_g315.2.2.2.2.2.2.2.2.2.2.2.2.2.2.2.2.1
theorem dX10_readCompared_91 : decode cX10_readCompared 91 = .ok (.invokevirtual 238, 3) := dq_g315.2.2.2.2.2.2.2.2.2.2.2.2.2.2.2.2.2.1
theorem dX10_readCompared_94 : decode cX10_readCompared 94 = .ok (.iconst 0, 1) := dq_g315.2.2.2.2.2.2.2.2.2.2.2.2.2.2.2.2.2.2.1
theorem dX10_readCompared_95 : decode cX10_readCompared 95 = .ok (.ireturn, 1) := dq_g315.2.2.2.2.2.2.2.2.2.2.2.2.2.2.2.2.2.2.2.1
theorem dq_g316 : decode cX10_waits 0 = .ok (.aload_n 0, 1) ∧ decode cX10_waits 1 = .ok (.getfield 89, 3) ∧ decode cX10_waits 4 = .ok (.aload_n 0, 1) ∧ decode cX10_waits 5 = .ok (.getfield 258, 3) ∧ decode cX10_waits 8 = .ok (.iload_n 1, 1) ∧ decode cX10_waits 9 = .ok (.iastore, 1) ∧ decode cX10_waits 10 = .ok (.aload_n 0, 1) ∧ decode cX10_waits 11 = .ok (.aload_n 0, 1) ∧ decode cX10_waits 12 = .ok (.getfield 258, 3) ∧ decode cX10_waits 15 = .ok (.iconst 1, 1) ∧ decode cX10_waits 16 = .ok (.iadd, 1) ∧ decode cX10_waits 17 = .ok (.putfield 258, 3) ∧ decode cX10_waits 20 = .ok (.return_, 1) ∧ True := dqC_ok (c := cX10_waits) [(0, 1, some (.aload_n 0)), (1, 3, some (.getfield 89)), (4, 1, some (.aload_n 0)), (5, 3, some (.getfield 258)), (8, 1, some (.iload_n 1)), (9, 1, some (.iastore)), (10, 1, some (.aload_n 0)), (11, 1, some (.aload_n 0)), (12, 3, some (.getfield 258)), (15, 1, some (.iconst 1)), (16, 1, some (.iadd)), (17, 3, some (.putfield 258)), (20, 1, some (.return_))] _ 0 rfl (by decide +kernel)
theorem dX10_waits_0 : decode cX10_waits 0 = .ok (.aload_n 0, 1) := dq_g316.1
theorem dX10_waits_1 : decode cX10_waits 1 = .ok (.getfield 89, 3) := dq_g316.2.1
theorem dX10_waits_4 : decode cX10_waits 4 = .ok (.aload_n 0, 1) := dq_g316.2.2.1
theorem dX10_waits_5 : decode cX10_waits 5 = .ok (.getfield 258, 3) := dq_g316.2.2.2.1
theorem dX10_waits_8 : decode cX10_waits 8 = .ok (.iload_n 1, 1) := dq_g316.2.2.2.2.1
theorem dX10_waits_9 : decode cX10_waits 9 = .ok (.iastore, 1) := dq_g316.2.2.2.2.2.1
theorem dX10_waits_10 : decode cX10_waits 10 = .ok (.aload_n 0, 1) := dq_g316.2.2.2.2.2.2.1
theorem dX10_waits_11 : decode cX10_waits 11 = .ok (.aload_n 0, 1) := dq_g316.2.2.2.2.2.2.2.1
theorem dX10_waits_12 : decode cX10_waits 12 = .ok (.getfield 258, 3) := dq_g316.2.2.2.2.2.2.2.2.1
theorem dX10_waits_15 : decode cX10_waits 15 = .ok (.iconst 1, 1) := dq_g316.2.2.2.2.2.2.2.2.2.1
theorem dX10_waits_16 : decode cX10_waits 16 = .ok (.iadd, 1) := dq_g316.2.2.2.2.2.2.2.2.2.2.1
theorem dX10_waits_17 : decode cX10_waits 17 = .ok (.putfield 258, 3) := dq_g316.2.2.2.2.2.2.2.2.2.2.2.1
theorem dX10_waits_20 : decode cX10_waits 20 = .ok (.return_, 1) := dq_g316.2.2.2.2.2.2.2.2.2.2.2.2.1
theorem dq_g317 : decode cX10_settles 0 = .ok (.aload_n 0, 1) ∧ decode cX10_settles 1 = .ok (.getfield 258, 3) ∧ decode cX10_settles 4 = .ok (.ifCond .le 53, 3) ∧ decode cX10_settles 7 = .ok (.aload_n 0, 1) ∧ decode cX10_settles 8 = .ok (.getfield 89, 3) ∧ decode cX10_settles 11 = .ok (.aload_n 0, 1) ∧ decode cX10_settles 12 = .ok (.getfield 258, 3) ∧ decode cX10_settles 15 = .ok (.iconst 1, 1) ∧ decode cX10_settles 16 = .ok (.isub, 1) ∧ decode cX10_settles 17 = .ok (.iaload, 1) ∧ decode cX10_settles 18 = .ok (.iload_n 1, 1) ∧ decode cX10_settles 19 = .ok (.if_icmp .ne 38, 3) ∧ decode cX10_settles 22 = .ok (.aload_n 0, 1) ∧ decode cX10_settles 23 = .ok (.aload_n 0, 1) ∧ decode cX10_settles 24 = .ok (.getfield 258, 3) ∧ decode cX10_settles 27 = .ok (.iconst 1, 1) ∧ decode cX10_settles 28 = .ok (.isub, 1) ∧ decode cX10_settles 29 = .ok (.putfield 258, 3) ∧ decode cX10_settles 32 = .ok (.aload_n 0, 1) ∧ decode cX10_settles 33 = .ok (.iload_n 1, 1) ∧ decode cX10_settles 34 = .ok (.iconst 0, 1) ∧ decode cX10_settles 35 = .ok (.invokevirtual 238, 3) ∧ decode cX10_settles 38 = .ok (.iload_n 1, 1) ∧ decode cX10_settles 39 = .ok (.bipush 9, 2) ∧ decode cX10_settles 41 = .ok (.if_icmp .ne (-41), 3) ∧ decode cX10_settles 44 = .ok (.aload_n 0, 1) ∧ decode cX10_settles 45 = .ok (.aload_n 0, 1) ∧ decode cX10_settles 46 = .ok (.getfield 261, 3) ∧ decode cX10_settles 49 = .ok (.iconst 1, 1) ∧ decode cX10_settles 50 = .ok (.isub, 1) ∧ True := dqC_ok (c := cX10_settles) [(0, 1, some (.aload_n 0)), (1, 3, some (.getfield 258)), (4, 3, some (.ifCond .le 53)), (7, 1, some (.aload_n 0)), (8, 3, some (.getfield 89)), (11, 1, some (.aload_n 0)), (12, 3, some (.getfield 258)), (15, 1, some (.iconst 1)), (16, 1, some (.isub)), (17, 1, some (.iaload)), (18, 1, some (.iload_n 1)), (19, 3, some (.if_icmp .ne 38)), (22, 1, some (.aload_n 0)), (23, 1, some (.aload_n 0)), (24, 3, some (.getfield 258)), (27, 1, some (.iconst 1)), (28, 1, some (.isub)), (29, 3, some (.putfield 258)), (32, 1, some (.aload_n 0)), (33, 1, some (.iload_n 1)), (34, 1, some (.iconst 0)), (35, 3, some (.invokevirtual 238)), (38, 1, some (.iload_n 1)), (39, 2, some (.bipush 9)), (41, 3, some (.if_icmp .ne (-41))), (44, 1, some (.aload_n 0)), (45, 1, some (.aload_n 0)), (46, 3, some (.getfield 261)), (49, 1, some (.iconst 1)), (50, 1, some (.isub))] _ 0 rfl (by decide +kernel)
theorem dX10_settles_0 : decode cX10_settles 0 = .ok (.aload_n 0, 1) := dq_g317.1
theorem dX10_settles_1 : decode cX10_settles 1 = .ok (.getfield 258, 3) := dq_g317.2.1
theorem dX10_settles_4 : decode cX10_settles 4 = .ok (.ifCond .le 53, 3) := dq_g317.2.2.1
theorem dX10_settles_7 : decode cX10_settles 7 = .ok (.aload_n 0, 1) := dq_g317.2.2.2.1
theorem dX10_settles_8 : decode cX10_settles 8 = .ok (.getfield 89, 3) := dq_g317.2.2.2.2.1
theorem dX10_settles_11 : decode cX10_settles 11 = .ok (.aload_n 0, 1) := dq_g317.2.2.2.2.2.1
theorem dX10_settles_12 : decode cX10_settles 12 = .ok (.getfield 258, 3) := dq_g317.2.2.2.2.2.2.1
theorem dX10_settles_15 : decode cX10_settles 15 = .ok (.iconst 1, 1) := dq_g317.2.2.2.2.2.2.2.1
theorem dX10_settles_16 : decode cX10_settles 16 = .ok (.isub, 1) := dq_g317.2.2.2.2.2.2.2.2.1
theorem dX10_settles_17 : decode cX10_settles 17 = .ok (.iaload, 1) := dq_g317.2.2.2.2.2.2.2.2.2.1
theorem dX10_settles_18 : decode cX10_settles 18 = .ok (.iload_n 1, 1) := dq_g317.2.2.2.2.2.2.2.2.2.2.1
theorem dX10_settles_19 : decode cX10_settles 19 = .ok (.if_icmp .ne 38, 3) := dq_g317.2.2.2.2.2.2.2.2.2.2.2.1
theorem dX10_settles_22 : decode cX10_settles 22 = .ok (.aload_n 0, 1) := dq_g317.2.2.2.2.2.2.2.2.2.2.2.2.1
theorem dX10_settles_23 : decode cX10_settles 23 = .ok (.aload_n 0, 1) := dq_g317.2.2.2.2.2.2.2.2.2.2.2.2.2.1
theorem dX10_settles_24 : decode cX10_settles 24 = .ok (.getfield 258, 3) := dq_g317.2.2.2.2.2.2.2.2.2.2.2.2.2.2.1
theorem dX10_settles_27 : decode cX10_settles 27 = .ok (.iconst 1, 1) := dq_g317.2.2.2.2.2.2.2.2.2.2.2.2.2.2.2.1
theorem dX10_settles_28 : decode cX10_settles 28 = .ok (.isub, 1) := dq_g317.2.2.2.2.2.2.2.2.2.2.2.2.2.2.2.2.1
theorem dX10_settles_29 : decode cX10_settles 29 = .ok (.putfield 258, 3) := dq_g317.2.2.2.2.2.2.2.2.2.2.2.2.2.2.2.2.2.1
theorem dX10_settles_32 : decode cX10_settles 32 = .ok (.aload_n 0, 1) := dq_g317.2.2.2.2.2.2.2.2.2.2.2.2.2.2.2.2.2.2.1
theorem dX10_settles_33 : decode cX10_settles 33 = .ok (.iload_n 1, 1) := dq_g317.2.2.2.2.2.2.2.2.2.2.2.2.2.2.2.2.2.2.2.1
theorem dX10_settles_34 : decode cX10_settles 34 = .ok (.iconst 0, 1) := dq_g317.2.2.2.2.2.2.2.2.2.2.2.2.2.2.2.2.2.2.2.2.1
theorem dX10_settles_35 : decode cX10_settles 35 = .ok (.invokevirtual 238, 3) := dq_g317.2.2.2.2.2.2.2.2.2.2.2.2.2.2.2.2.2.2.2.2.2.1
theorem dX10_settles_38 : decode cX10_settles 38 = .ok (.iload_n 1, 1) := dq_g317.2.2.2.2.2.2.2.2.2.2.2.2.2.2.2.2.2.2.2.2.2.2.1
theorem dX10_settles_39 : decode cX10_settles 39 = .ok (.bipush 9, 2) := dq_g317.2.2.2.2.2.2.2.2.2.2.2.2.2.2.2.2.2.2.2.2.2.2.2.1
theorem dX10_settles_41 : decode cX10_settles 41 = .ok (.if_icmp .ne (-41), 3) := dq_g317.2.2.2.2.2.2.2.2.2.2.2.2.2.2.2.2.2.2.2.2.2.2.2.2.1
theorem dX10_settles_44 : decode cX10_settles 44 = .ok (.aload_n 0, 1) := dq_g317.2.2.2.2.2.2.2.2.2.2.2.2.2.2.2.2.2.2.2.2.2.2.2.2.2.1
theorem dX10_settles_45 : decode cX10_settles 45 = .ok (.aload_n 0, 1) := dq_g317.2.2.2.2.2.2.2.2.2.2.2.2.2.2.2.2.2.2.2.2.2.2.2.2.2.2.1
theorem dX10_settles_46 : decode cX10_settles 46 = .ok (.getfield 261, 3) := dq_g317.2.2.2.2.2.2.2.2.2.2.2.2.2.2.2.2.2.2.2.2.2.2.2.2.2.2.2.1
theorem dX10_settles_49 : decode cX10_settles 49 = .ok (.iconst 1, 1) := dq_g317.2.2.2.2.2.2.2.2.2.2.2.2.2.2.2.2.2.2.2.2.2.2.2.2.2.2.2.2.1
theorem dX10_settles_50 : decode cX10_settles 50 = .ok (.isub, 1) := dq_g317.2.2.2.2.2.2.2.2.2.2.2.2.2.2.2.2.2.2.2.2.2.2.2.2.2.2.2.2.2.1
theorem dq_g318 : decode cX10_settles 51 = .ok (.putfield 261, 3) ∧ decode cX10_settles 54 = .ok (.goto (-54), 3) ∧ decode cX10_settles 57 = .ok (.return_, 1) ∧ True := dqC_ok (c := cX10_settles) [(51, 3, some (.putfield 261)), (54, 3, some (.goto (-54))), (57, 1, some (.return_))] _ 51 rfl (by decide +kernel)
theorem dX10_settles_51 : decode cX10_settles 51 = .ok (.putfield 261, 3) := dq_g318.1
theorem dX10_settles_54 : decode cX10_settles 54 = .ok (.goto (-54), 3) := dq_g318.2.1
theorem dX10_settles_57 : decode cX10_settles 57 = .ok (.return_, 1) := dq_g318.2.2.1
theorem dq_g319 : decode cX10_readAny 0 = .ok (.iconst 0, 1) ∧ decode cX10_readAny 1 = .ok (.istore_n 1, 1) ∧ decode cX10_readAny 2 = .ok (.aload_n 0, 1) ∧ decode cX10_readAny 3 = .ok (.iconst 0, 1) ∧ decode cX10_readAny 4 = .ok (.putfield 258, 3) ∧ decode cX10_readAny 7 = .ok (.iconst 1, 1) ∧ decode cX10_readAny 8 = .ok (.istore_n 2, 1) ∧ decode cX10_readAny 9 = .ok (.iload_n 2, 1) ∧ decode cX10_readAny 10 = .ok (.ifCond .eq 99, 3) ∧ decode cX10_readAny 13 = .ok (.aload_n 0, 1) ∧ decode cX10_readAny 14 = .ok (.bipush 9, 2) ∧ decode cX10_readAny 16 = .ok (.invokevirtual 264, 3) ∧ decode cX10_readAny 19 = .ok (.istore_n 3, 1) ∧ decode cX10_readAny 20 = .ok (.iload_n 3, 1) ∧ decode cX10_readAny 21 = .ok (.ifCond .ne 12, 3) ∧ decode cX10_readAny 24 = .ok (.aload_n 0, 1) ∧ decode cX10_readAny 25 = .ok (.bipush 40, 2) ∧ decode cX10_readAny 27 = .ok (.invokevirtual 249, 3) ∧ decode cX10_readAny 30 = .ok (.ifCond .eq 58, 3) ∧ decode cX10_readAny 33 = .ok (.aload_n 0, 1) ∧ decode cX10_readAny 34 = .ok (.getfield 261, 3) ∧ decode cX10_readAny 37 = .ok (.bipush 8, 2) ∧ decode cX10_readAny 39 = .ok (.if_icmp .ne 9, 3) ∧ decode cX10_readAny 42 = .ok (.aload_n 0, 1) ∧ decode cX10_readAny 43 = .ok (.iconst 3, 1) ∧ decode cX10_readAny 44 = .ok (.invokevirtual 235, 3) ∧ decode cX10_readAny 47 = .ok (.ireturn, 1) ∧ decode cX10_readAny 48 = .ok (.aload_n 0, 1) ∧ decode cX10_readAny 49 = .ok (.aload_n 0, 1) ∧ decode cX10_readAny 50 = .ok (.getfield 261, 3) ∧ True := dqC_ok (c := cX10_readAny) [(0, 1, some (.iconst 0)), (1, 1, some (.istore_n 1)), (2, 1, some (.aload_n 0)), (3, 1, some (.iconst 0)), (4, 3, some (.putfield 258)), (7, 1, some (.iconst 1)), (8, 1, some (.istore_n 2)), (9, 1, some (.iload_n 2)), (10, 3, some (.ifCond .eq 99)), (13, 1, some (.aload_n 0)), (14, 2, some (.bipush 9)), (16, 3, some (.invokevirtual 264)), (19, 1, some (.istore_n 3)), (20, 1, some (.iload_n 3)), (21, 3, some (.ifCond .ne 12)), (24, 1, some (.aload_n 0)), (25, 2, some (.bipush 40)), (27, 3, some (.invokevirtual 249)), (30, 3, some (.ifCond .eq 58)), (33, 1, some (.aload_n 0)), (34, 3, some (.getfield 261)), (37, 2, some (.bipush 8)), (39, 3, some (.if_icmp .ne 9)), (42, 1, some (.aload_n 0)), (43, 1, some (.iconst 3)), (44, 3, some (.invokevirtual 235)), (47, 1, some (.ireturn)), (48, 1, some (.aload_n 0)), (49, 1, some (.aload_n 0)), (50, 3, some (.getfield 261))] _ 0 rfl (by decide +kernel)
theorem dX10_readAny_0 : decode cX10_readAny 0 = .ok (.iconst 0, 1) := dq_g319.1
theorem dX10_readAny_1 : decode cX10_readAny 1 = .ok (.istore_n 1, 1) := dq_g319.2.1
theorem dX10_readAny_2 : decode cX10_readAny 2 = .ok (.aload_n 0, 1) := dq_g319.2.2.1
theorem dX10_readAny_3 : decode cX10_readAny 3 = .ok (.iconst 0, 1) := dq_g319.2.2.2.1
theorem dX10_readAny_4 : decode cX10_readAny 4 = .ok (.putfield 258, 3) := dq_g319.2.2.2.2.1
theorem dX10_readAny_7 : decode cX10_readAny 7 = .ok (.iconst 1, 1) := dq_g319.2.2.2.2.2.1
theorem dX10_readAny_8 : decode cX10_readAny 8 = .ok (.istore_n 2, 1) := dq_g319.2.2.2.2.2.2.1
theorem dX10_readAny_9 : decode cX10_readAny 9 = .ok (.iload_n 2, 1) := dq_g319.2.2.2.2.2.2.2.1
theorem dX10_readAny_10 : decode cX10_readAny 10 = .ok (.ifCond .eq 99, 3) := dq_g319.2.2.2.2.2.2.2.2.1
theorem dX10_readAny_13 : decode cX10_readAny 13 = .ok (.aload_n 0, 1) := dq_g319.2.2.2.2.2.2.2.2.2.1
theorem dX10_readAny_14 : decode cX10_readAny 14 = .ok (.bipush 9, 2) := dq_g319.2.2.2.2.2.2.2.2.2.2.1
theorem dX10_readAny_16 : decode cX10_readAny 16 = .ok (.invokevirtual 264, 3) := dq_g319.2.2.2.2.2.2.2.2.2.2.2.1
theorem dX10_readAny_19 : decode cX10_readAny 19 = .ok (.istore_n 3, 1) := dq_g319.2.2.2.2.2.2.2.2.2.2.2.2.1
theorem dX10_readAny_20 : decode cX10_readAny 20 = .ok (.iload_n 3, 1) := dq_g319.2.2.2.2.2.2.2.2.2.2.2.2.2.1
theorem dX10_readAny_21 : decode cX10_readAny 21 = .ok (.ifCond .ne 12, 3) := dq_g319.2.2.2.2.2.2.2.2.2.2.2.2.2.2.1
theorem dX10_readAny_24 : decode cX10_readAny 24 = .ok (.aload_n 0, 1) := dq_g319.2.2.2.2.2.2.2.2.2.2.2.2.2.2.2.1
theorem dX10_readAny_25 : decode cX10_readAny 25 = .ok (.bipush 40, 2) := dq_g319.2.2.2.2.2.2.2.2.2.2.2.2.2.2.2.2.1
theorem dX10_readAny_27 : decode cX10_readAny 27 = .ok (.invokevirtual 249, 3) := dq_g319.2.2.2.2.2.2.2.2.2.2.2.2.2.2.2.2.2.1
theorem dX10_readAny_30 : decode cX10_readAny 30 = .ok (.ifCond .eq 58, 3) := dq_g319.2.2.2.2.2.2.2.2.2.2.2.2.2.2.2.2.2.2.1
theorem dX10_readAny_33 : decode cX10_readAny 33 = .ok (.aload_n 0, 1) := dq_g319.2.2.2.2.2.2.2.2.2.2.2.2.2.2.2.2.2.2.2.1
theorem dX10_readAny_34 : decode cX10_readAny 34 = .ok (.getfield 261, 3) := dq_g319.2.2.2.2.2.2.2.2.2.2.2.2.2.2.2.2.2.2.2.2.1
theorem dX10_readAny_37 : decode cX10_readAny 37 = .ok (.bipush 8, 2) := dq_g319.2.2.2.2.2.2.2.2.2.2.2.2.2.2.2.2.2.2.2.2.2.1
theorem dX10_readAny_39 : decode cX10_readAny 39 = .ok (.if_icmp .ne 9, 3) := dq_g319.2.2.2.2.2.2.2.2.2.2.2.2.2.2.2.2.2.2.2.2.2.2.1
theorem dX10_readAny_42 : decode cX10_readAny 42 = .ok (.aload_n 0, 1) := dq_g319.2.2.2.2.2.2.2.2.2.2.2.2.2.2.2.2.2.2.2.2.2.2.2.1
theorem dX10_readAny_43 : decode cX10_readAny 43 = .ok (.iconst 3, 1) := dq_g319.2.2.2.2.2.2.2.2.2.2.2.2.2.2.2.2.2.2.2.2.2.2.2.2.1
theorem dX10_readAny_44 : decode cX10_readAny 44 = .ok (.invokevirtual 235, 3) := dq_g319.2.2.2.2.2.2.2.2.2.2.2.2.2.2.2.2.2.2.2.2.2.2.2.2.2.1
theorem dX10_readAny_47 : decode cX10_readAny 47 = .ok (.ireturn, 1) := dq_g319.2.2.2.2.2.2.2.2.2.2.2.2.2.2.2.2.2.2.2.2.2.2.2.2.2.2.1
theorem dX10_readAny_48 : decode cX10_readAny 48 = .ok (.aload_n 0, 1) := dq_g319.2.2.2.2.2.2.2.2.2.2.2.2.2.2.2.2.2.2.2.2.2.2.2.2.2.2.2.1
theorem dX10_readAny_49 : decode cX10_readAny 49 = .ok (.aload_n 0, 1) := dq_g319.2.2.2.2.2.2.2.2.2.2.2.2.2.2.2.2.2.2.2.2.2.2.2.2.2.2.2.2.1
theorem dX10_readAny_50 : decode cX10_readAny 50 = .ok (.getfield 261, 3) := dq_g319.2.2.2.2.2.2.2.2.2.2.2.2.2.2.2.2.2.2.2.2.2.2.2.2.2.2.2.2.2.1
theorem dq_g320 : decode cX10_readAny 53 = .ok (.iconst 1, 1) ∧ decode cX10_readAny 54 = .ok (.iadd, 1) ∧ decode cX10_readAny 55 = .ok (.putfield 261, 3) ∧ decode cX10_readAny 58 = .ok (.iload_n 3, 1) ∧ decode cX10_readAny 59 = .ok (.ifCond .ne 7, 3) ∧ decode cX10_readAny 62 = .ok (.iload_n 1, 1) ∧ decode cX10_readAny 63 = .ok (.iconst 1, 1) ∧ decode cX10_readAny 64 = .ok (.iadd, 1) ∧ decode cX10_readAny 65 = .ok (.istore_n 1, 1) ∧ decode cX10_readAny 66 = .ok (.aload_n 0, 1) ∧ decode cX10_readAny 67 = .ok (.iload_n 3, 1) ∧ decode cX10_readAny 68 = .ok (.ifCond .eq 8, 3) ∧ decode cX10_readAny 71 = .ok (.bipush 9, 2) ∧ decode cX10_readAny 73 = .ok (.goto 5, 3) ∧ decode cX10_readAny 76 = .ok (.bipush 12, 2) ∧ decode cX10_readAny 78 = .ok (.invokevirtual 267, 3) ∧ decode cX10_readAny 81 = .ok (.aload_n 0, 1) ∧ decode cX10_readAny 82 = .ok (.invokevirtual 242, 3) ∧ decode cX10_readAny 85 = .ok (.goto (-76), 3) ∧ decode cX10_readAny 88 = .ok (.aload_n 0, 1) ∧ decode cX10_readAny 89 = .ok (.invokevirtual 270, 3) ∧ decode cX10_readAny 92 = .ok (.iconst (-1), 1) ∧ decode cX10_readAny 93 = .ok (.if_icmp .ne 5, 3) ∧ decode cX10_readAny 96 = .ok (.iconst (-1), 1) ∧ decode cX10_readAny 97 = .ok (.ireturn, 1) ∧ decode cX10_readAny 98 = .ok (.aload_n 0, 1) ∧ decode cX10_readAny 99 = .ok (.bipush 9, 2) ∧ decode cX10_readAny 101 = .ok (.invokevirtual 273, 3) ∧ decode cX10_readAny 104 = .ok (.iconst 0, 1) ∧ decode cX10_readAny 105 = .ok (.istore_n 2, 1) ∧ True := dqC_ok (c := cX10_readAny) [(53, 1, some (.iconst 1)), (54, 1, some (.iadd)), (55, 3, some (.putfield 261)), (58, 1, some (.iload_n 3)), (59, 3, some (.ifCond .ne 7)), (62, 1, some (.iload_n 1)), (63, 1, some (.iconst 1)), (64, 1, some (.iadd)), (65, 1, some (.istore_n 1)), (66, 1, some (.aload_n 0)), (67, 1, some (.iload_n 3)), (68, 3, some (.ifCond .eq 8)), (71, 2, some (.bipush 9)), (73, 3, some (.goto 5)), (76, 2, some (.bipush 12)), (78, 3, some (.invokevirtual 267)), (81, 1, some (.aload_n 0)), (82, 3, some (.invokevirtual 242)), (85, 3, some (.goto (-76))), (88, 1, some (.aload_n 0)), (89, 3, some (.invokevirtual 270)), (92, 1, some (.iconst (-1))), (93, 3, some (.if_icmp .ne 5)), (96, 1, some (.iconst (-1))), (97, 1, some (.ireturn)), (98, 1, some (.aload_n 0)), (99, 2, some (.bipush 9)), (101, 3, some (.invokevirtual 273)), (104, 1, some (.iconst 0)), (105, 1, some (.istore_n 2))] _ 53 rfl (by decide +kernel)
theorem dX10_readAny_53 : decode cX10_readAny 53 = .ok (.iconst 1, 1) := dq_g320.1
theorem dX10_readAny_54 : decode cX10_readAny 54 = .ok (.iadd, 1) := dq_g320.2.1
theorem dX10_readAny_55 : decode cX10_readAny 55 = .ok (.putfield 261, 3) := dq_g320.2.2.1
theorem dX10_readAny_58 : decode cX10_readAny 58 = .ok (.iload_n 3, 1) := dq_g320.2.2.2.1
theorem dX10_readAny_59 : decode cX10_readAny 59 = .ok (.ifCond .ne 7, 3) := dq_g320.2.2.2.2.1
theorem dX10_readAny_62 : decode cX10_readAny 62 = .ok (.iload_n 1, 1) := dq_g320.2.2.2.2.2.1
theorem dX10_readAny_63 : decode cX10_readAny 63 = .ok (.iconst 1, 1) := dq_g320.2.2.2.2.2.2.1
theorem dX10_readAny_64 : decode cX10_readAny 64 = .ok (.iadd, 1) := dq_g320.2.2.2.2.2.2.2.1
theorem dX10_readAny_65 : decode cX10_readAny 65 = .ok (.istore_n 1, 1) := dq_g320.2.2.2.2.2.2.2.2.1
theorem dX10_readAny_66 : decode cX10_readAny 66 = .ok (.aload_n 0, 1) := dq_g320.2.2.2.2.2.2.2.2.2.1
theorem dX10_readAny_67 : decode cX10_readAny 67 = .ok (.iload_n 3, 1) := dq_g320.2.2.2.2.2.2.2.2.2.2.1
theorem dX10_readAny_68 : decode cX10_readAny 68 = .ok (.ifCond .eq 8, 3) := dq_g320.2.2.2.2.2.2.2.2.2.2.2.1
theorem dX10_readAny_71 : decode cX10_readAny 71 = .ok (.bipush 9, 2) := dq_g320.2.2.2.2.2.2.2.2.2.2.2.2.1
theorem dX10_readAny_73 : decode cX10_readAny 73 = .ok (.goto 5, 3) := dq_g320.2.2.2.2.2.2.2.2.2.2.2.2.2.1
theorem dX10_readAny_76 : decode cX10_readAny 76 = .ok (.bipush 12, 2) := dq_g320.2.2.2.2.2.2.2.2.2.2.2.2.2.2.1
theorem dX10_readAny_78 : decode cX10_readAny 78 = .ok (.invokevirtual 267, 3) := dq_g320.2.2.2.2.2.2.2.2.2.2.2.2.2.2.2.1
theorem dX10_readAny_81 : decode cX10_readAny 81 = .ok (.aload_n 0, 1) := dq_g320.2.2.2.2.2.2.2.2.2.2.2.2.2.2.2.2.1
theorem dX10_readAny_82 : decode cX10_readAny 82 = .ok (.invokevirtual 242, 3) := dq_g320.2.2.2.2.2.2.2.2.2.2.2.2.2.2.2.2.2.1
theorem dX10_readAny_85 : decode cX10_readAny 85 = .ok (.goto (-76), 3) := dq_g320.2.2.2.2.2.2.2.2.2.2.2.2.2.2.2.2.2.2.1
theorem dX10_readAny_88 : decode cX10_readAny 88 = .ok (.aload_n 0, 1) := dq_g320.2.2.2.2.2.2.2.2.2.2.2.2.2.2.2.2.2.2.2.1
theorem dX10_readAny_89 : decode cX10_readAny 89 = .ok (.invokevirtual 270, 3) := dq_g320.2.2.2.2.2.2.2.2.2.2.2.2.2.2.2.2.2.2.2.2.1
theorem dX10_readAny_92 : decode cX10_readAny 92 = .ok (.iconst (-1), 1) := dq_g320.2.2.2.2.2.2.2.2.2.2.2.2.2.2.2.2.2.2.2.2.2.1
theorem dX10_readAny_93 : decode cX10_readAny 93 = .ok (.if_icmp .ne 5, 3) := dq_g320.2.2.2.2.2.2.2.2.2.2.2.2.2.2.2.2.2.2.2.2.2.2.1
theorem dX10_readAny_96 : decode cX10_readAny 96 = .ok (.iconst (-1), 1) := dq_g320.2.2.2.2.2.2.2.2.2.2.2.2.2.2.2.2.2.2.2.2.2.2.2.1
theorem dX10_readAny_97 : decode cX10_readAny 97 = .ok (.ireturn, 1) := dq_g320.2.2.2.2.2.2.2.2.2.2.2.2.2.2.2.2.2.2.2.2.2.2.2.2.1
theorem dX10_readAny_98 : decode cX10_readAny 98 = .ok (.aload_n 0, 1) := dq_g320.2.2.2.2.2.2.2.2.2.2.2.2.2.2.2.2.2.2.2.2.2.2.2.2.2.1
theorem dX10_readAny_99 : decode cX10_readAny 99 = .ok (.bipush 9, 2) := dq_g320.2.2.2.2.2.2.2.2.2.2.2.2.2.2.2.2.2.2.2.2.2.2.2.2.2.2.1
theorem dX10_readAny_101 : decode cX10_readAny 101 = .ok (.invokevirtual 273, 3) := dq_g320.2.2.2.2.2.2.2.2.2.2.2.2.2.2.2.2.2.2.2.2.2.2.2.2.2.2.2.1
theorem dX10_readAny_104 : decode cX10_readAny 104 = .ok (.iconst 0, 1) := dq_g320.2.2.2.2.2.2.2.2.2.2.2.2.2.2.2.2.2.2.2.2.2.2.2.2.2.2.2.2.1
theorem dX10_readAny_105 : decode cX10_readAny 105 = .ok (.istore_n 2, 1) := dq_g320.2.2.2.2.2.2.2.2.2.2.2.2.2.2.2.2.2.2.2.2.2.2.2.2.2.2.2.2.2.1
theorem dq_g321 : decode cX10_readAny 106 = .ok (.goto (-97), 3) ∧ decode cX10_readAny 109 = .ok (.aload_n 0, 1) ∧ decode cX10_readAny 110 = .ok (.bipush 8, 2) ∧ decode cX10_readAny 112 = .ok (.invokevirtual 264, 3) ∧ decode cX10_readAny 115 = .ok (.ifCond .eq 24, 3) ∧ decode cX10_readAny 118 = .ok (.aload_n 0, 1) ∧ decode cX10_readAny 119 = .ok (.bipush 10, 2) ∧ decode cX10_readAny 121 = .ok (.invokevirtual 273, 3) ∧ decode cX10_readAny 124 = .ok (.aload_n 0, 1) ∧ decode cX10_readAny 125 = .ok (.bipush 10, 2) ∧ decode cX10_readAny 127 = .ok (.invokevirtual 267, 3) ∧ decode cX10_readAny 130 = .ok (.aload_n 0, 1) ∧ decode cX10_readAny 131 = .ok (.invokevirtual 242, 3) ∧ decode cX10_readAny 134 = .ok (.iconst 1, 1) ∧ decode cX10_readAny 135 = .ok (.istore_n 2, 1) ∧ decode cX10_readAny 136 = .ok (.goto (-127), 3) ∧ decode cX10_readAny 139 = .ok (.aload_n 0, 1) ∧ decode cX10_readAny 140 = .ok (.bipush 7, 2) ∧ decode cX10_readAny 142 = .ok (.invokevirtual 264, 3) ∧ decode cX10_readAny 145 = .ok (.ifCond .eq 30, 3) ∧ decode cX10_readAny 148 = .ok (.aload_n 0, 1) ∧ decode cX10_readAny 149 = .ok (.bipush 10, 2) ∧ decode cX10_readAny 151 = .ok (.invokevirtual 273, 3) ∧ decode cX10_readAny 154 = .ok (.aload_n 0, 1) ∧ decode cX10_readAny 155 = .ok (.bipush 11, 2) ∧ decode cX10_readAny 157 = .ok (.invokevirtual 273, 3) ∧ decode cX10_readAny 160 = .ok (.aload_n 0, 1) ∧ decode cX10_readAny 161 = .ok (.bipush 11, 2) ∧ decode cX10_readAny 163 = .ok (.invokevirtual 267, 3) ∧ decode cX10_readAny 166 = .ok (.aload_n 0, 1) ∧ True := dqC_ok (c := cX10_readAny) [(106, 3, some (.goto (-97))), (109, 1, some (.aload_n 0)), (110, 2, some (.bipush 8)), (112, 3, some (.invokevirtual 264)), (115, 3, some (.ifCond .eq 24)), (118, 1, some (.aload_n 0)), (119, 2, some (.bipush 10)), (121, 3, some (.invokevirtual 273)), (124, 1, some (.aload_n 0)), (125, 2, some (.bipush 10)), (127, 3, some (.invokevirtual 267)), (130, 1, some (.aload_n 0)), (131, 3, some (.invokevirtual 242)), (134, 1, some (.iconst 1)), (135, 1, some (.istore_n 2)), (136, 3, some (.goto (-127))), (139, 1, some (.aload_n 0)), (140, 2, some (.bipush 7)), (142, 3, some (.invokevirtual 264)), (145, 3, some (.ifCond .eq 30)), (148, 1, some (.aload_n 0)), (149, 2, some (.bipush 10)), (151, 3, some (.invokevirtual 273)), (154, 1, some (.aload_n 0)), (155, 2, some (.bipush 11)), (157, 3, some (.invokevirtual 273)), (160, 1, some (.aload_n 0)), (161, 2, some (.bipush 11)), (163, 3, some (.invokevirtual 267)), (166, 1, some (.aload_n 0))] _ 106 rfl (by decide +kernel)
theorem dX10_readAny_106 : decode cX10_readAny 106 = .ok (.goto (-97), 3) := dq_g321.1
theorem dX10_readAny_109 : decode cX10_readAny 109 = .ok (.aload_n 0, 1) := dq_g321.2.1
theorem dX10_readAny_110 : decode cX10_readAny 110 = .ok (.bipush 8, 2) := dq_g321.2.2.1
theorem dX10_readAny_112 : decode cX10_readAny 112 = .ok (.invokevirtual 264, 3) := dq_g321.2.2.2.1
theorem dX10_readAny_115 : decode cX10_readAny 115 = .ok (.ifCond .eq 24, 3) := dq_g321.2.2.2.2.1
theorem dX10_readAny_118 : decode cX10_readAny 118 = .ok (.aload_n 0, 1) := dq_g321.2.2.2.2.2.1
theorem dX10_readAny_119 : decode cX10_readAny 119 = .ok (.bipush 10, 2) := dq_g321.2.2.2.2.2.2.1
theorem dX10_readAny_121 : decode cX10_readAny 121 = .ok (.invokevirtual 273, 3) := dq_g321.2.2.2.2.2.2.2.1
theorem dX10_readAny_124 : decode cX10_readAny 124 = .ok (.aload_n 0, 1) := dq_g321.2.2.2.2.2.2.2.2.1
theorem dX10_readAny_125 : decode cX10_readAny 125 = .ok (.bipush 10, 2) := dq_g321.2.2.2.2.2.2.2.2.2.1
theorem dX10_readAny_127 : decode cX10_readAny 127 = .ok (.invokevirtual 267, 3) := dq_g321.2.2.2.2.2.2.2.2.2.2.1
theorem dX10_readAny_130 : decode cX10_readAny 130 = .ok (.aload_n 0, 1) := dq_g321.2.2.2.2.2.2.2.2.2.2.2.1
theorem dX10_readAny_131 : decode cX10_readAny 131 = .ok (.invokevirtual 242, 3) := dq_g321.2.2.2.2.2.2.2.2.2.2.2.2.1
theorem dX10_readAny_134 : decode cX10_readAny 134 = .ok (.iconst 1, 1) := dq_g321.2.2.2.2.2.2.2.2.2.2.2.2.2.1
theorem dX10_readAny_135 : decode cX10_readAny 135 = .ok (.istore_n 2, 1) := dq_g321.2.2.2.2.2.2.2.2.2.2.2.2.2.2.1
theorem dX10_readAny_136 : decode cX10_readAny 136 = .ok (.goto (-127), 3) := dq_g321.2.2.2.2.2.2.2.2.2.2.2.2.2.2.2.1
theorem dX10_readAny_139 : decode cX10_readAny 139 = .ok (.aload_n 0, 1) := dq_g321.2.2.2.2.2.2.2.2.2.2.2.2.2.2.2.2.1
theorem dX10_readAny_140 : decode cX10_readAny 140 = .ok (.bipush 7, 2) := dq_g321.2.2.2.2.2.2.2.2.2.2.2.2.2.2.2.2.2.1
theorem dX10_readAny_142 : decode cX10_readAny 142 = .ok (.invokevirtual 264, 3) := dq_g321.2.2.2.2.2.2.2.2.2.2.2.2.2.2.2.2.2.2.1
theorem dX10_readAny_145 : decode cX10_readAny 145 = .ok (.ifCond .eq 30, 3) := dq_g321.2.2.2.2.2.2.2.2.2.2.2.2.2.2.2.2.2.2.2.1
theorem dX10_readAny_148 : decode cX10_readAny 148 = .ok (.aload_n 0, 1) := dq_g321.2.2.2.2.2.2.2.2.2.2.2.2.2.2.2.2.2.2.2.2.1
theorem dX10_readAny_149 : decode cX10_readAny 149 = .ok (.bipush 10, 2) := dq_g321.2.2.2.2.2.2.2.2.2.2.2.2.2.2.2.2.2.2.2.2.2.1
theorem dX10_readAny_151 : decode cX10_readAny 151 = .ok (.invokevirtual 273, 3) := dq_g321.2.2.2.2.2.2.2.2.2.2.2.2.2.2.2.2.2.2.2.2.2.2.1
theorem dX10_readAny_154 : decode cX10_readAny 154 = .ok (.aload_n 0, 1) := dq_g321.2.2.2.2.2.2.2.2.2.2.2.2.2.2.2.2.2.2.2.2.2.2.2.1
theorem dX10_readAny_155 : decode cX10_readAny 155 = .ok (.bipush 11, 2) := dq_g321.2.2.2.2.2.2.2.2.2.2.2.2.2.2.2.2.2.2.2.2.2.2.2.2.1
theorem dX10_readAny_157 : decode cX10_readAny 157 = .ok (.invokevirtual 273, 3) := dq_g321.2.2.2.2.2.2.2.2.2.2.2.2.2.2.2.2.2.2.2.2.2.2.2.2.2.1
theorem dX10_readAny_160 : decode cX10_readAny 160 = .ok (.aload_n 0, 1) := dq_g321.2.2.2.2.2.2.2.2.2.2.2.2.2.2.2.2.2.2.2.2.2.2.2.2.2.2.1
theorem dX10_readAny_161 : decode cX10_readAny 161 = .ok (.bipush 11, 2) := dq_g321.2.2.2.2.2.2.2.2.2.2.2.2.2.2.2.2.2.2.2.2.2.2.2.2.2.2.2.1
theorem dX10_readAny_163 : decode cX10_readAny 163 = .ok (.invokevirtual 267, 3) := dq_g321.2.2.2.2.2.2.2.2.2.2.2.2.2.2.2.2.2.2.2.2.2.2.2.2.2.2.2.2.1
theorem dX10_readAny_166 : decode cX10_readAny 166 = .ok (.aload_n 0, 1) := dq_g321.2.2.2.2.2.2.2.2.2.2.2.2.2.2.2.2.2.2.2.2.2.2.2.2.2.2.2.2.2.1
theorem dq_g322 : decode cX10_readAny 167 = .ok (.invokevirtual 242, 3) ∧ decode cX10_readAny 170 = .ok (.iconst 1, 1) ∧ decode cX10_readAny 171 = .ok (.istore_n 2, 1) ∧ decode cX10_readAny 172 = .ok (.goto (-163), 3) ∧ decode cX10_readAny 175 = .ok (.aload_n 0, 1) ∧ decode cX10_readAny 176 = .ok (.bipush 10, 2) ∧ decode cX10_readAny 178 = .ok (.invokevirtual 273, 3) ∧ decode cX10_readAny 181 = .ok (.aload_n 0, 1) ∧ decode cX10_readAny 182 = .ok (.bipush 11, 2) ∧ decode cX10_readAny 184 = .ok (.invokevirtual 273, 3) ∧ decode cX10_readAny 187 = .ok (.iload_n 1, 1) ∧ decode cX10_readAny 188 = .ok (.ifCond .ne 5, 3) ∧ decode cX10_readAny 191 = .ok (.iconst 0, 1) ∧ decode cX10_readAny 192 = .ok (.ireturn, 1) ∧ decode cX10_readAny 193 = .ok (.aload_n 0, 1) ∧ decode cX10_readAny 194 = .ok (.bipush 41, 2) ∧ decode cX10_readAny 196 = .ok (.invokevirtual 249, 3) ∧ decode cX10_readAny 199 = .ok (.ifCond .ne 9, 3) ∧ decode cX10_readAny 202 = .ok (.aload_n 0, 1) ∧ decode cX10_readAny 203 = .ok (.iconst 1, 1) ∧ decode cX10_readAny 204 = .ok (.invokevirtual 235, 3) ∧ decode cX10_readAny 207 = .ok (.ireturn, 1) ∧ decode cX10_readAny 208 = .ok (.aload_n 0, 1) ∧ decode cX10_readAny 209 = .ok (.aload_n 0, 1) ∧ decode cX10_readAny 210 = .ok (.getfield 258, 3) ∧ decode cX10_readAny 213 = .ok (.iconst 1, 1) ∧ decode cX10_readAny 214 = .ok (.isub, 1) ∧ decode cX10_readAny 215 = .ok (.putfield 258, 3) ∧ decode cX10_readAny 218 = .ok (.iload_n 1, 1) ∧ decode cX10_readAny 219 = .ok (.iconst 1, 1) ∧ True := dqC_ok (c := cX10_readAny) [(167, 3, some (.invokevirtual 242)), (170, 1, some (.iconst 1)), (171, 1, some (.istore_n 2)), (172, 3, some (.goto (-163))), (175, 1, some (.aload_n 0)), (176, 2, some (.bipush 10)), (178, 3, some (.invokevirtual 273)), (181, 1, some (.aload_n 0)), (182, 2, some (.bipush 11)), (184, 3, some (.invokevirtual 273)), (187, 1, some (.iload_n 1)), (188, 3, some (.ifCond .ne 5)), (191, 1, some (.iconst 0)), (192, 1, some (.ireturn)), (193, 1, some (.aload_n 0)), (194, 2, some (.bipush 41)), (196, 3, some (.invokevirtual 249)), (199, 3, some (.ifCond .ne 9)), (202, 1, some (.aload_n 0)), (203, 1, some (.iconst 1)), (204, 3, some (.invokevirtual 235)), (207, 1, some (.ireturn)), (208, 1, some (.aload_n 0)), (209, 1, some (.aload_n 0)), (210, 3, some (.getfield 258)), (213, 1, some (.iconst 1)), (214, 1, some (.isub)), (215, 3, some (.putfield 258)), (218, 1, some (.iload_n 1)), (219, 1, some (.iconst 1))] _ 167 rfl (by decide +kernel)
theorem dX10_readAny_167 : decode cX10_readAny 167 = .ok (.invokevirtual 242, 3) := dq_g322.1
theorem dX10_readAny_170 : decode cX10_readAny 170 = .ok (.iconst 1, 1) := dq_g322.2.1
theorem dX10_readAny_171 : decode cX10_readAny 171 = .ok (.istore_n 2, 1) := dq_g322.2.2.1
theorem dX10_readAny_172 : decode cX10_readAny 172 = .ok (.goto (-163), 3) := dq_g322.2.2.2.1
theorem dX10_readAny_175 : decode cX10_readAny 175 = .ok (.aload_n 0, 1) := dq_g322.2.2.2.2.1
theorem dX10_readAny_176 : decode cX10_readAny 176 = .ok (.bipush 10, 2) := dq_g322.2.2.2.2.2.1
theorem dX10_readAny_178 : decode cX10_readAny 178 = .ok (.invokevirtual 273, 3) := dq_g322.2.2.2.2.2.2.1
theorem dX10_readAny_181 : decode cX10_readAny 181 = .ok (.aload_n 0, 1) := dq_g322.2.2.2.2.2.2.2.1
theorem dX10_readAny_182 : decode cX10_readAny 182 = .ok (.bipush 11, 2) := dq_g322.2.2.2.2.2.2.2.2.1
theorem dX10_readAny_184 : decode cX10_readAny 184 = .ok (.invokevirtual 273, 3) := dq_g322.2.2.2.2.2.2.2.2.2.1
theorem dX10_readAny_187 : decode cX10_readAny 187 = .ok (.iload_n 1, 1) := dq_g322.2.2.2.2.2.2.2.2.2.2.1
theorem dX10_readAny_188 : decode cX10_readAny 188 = .ok (.ifCond .ne 5, 3) := dq_g322.2.2.2.2.2.2.2.2.2.2.2.1
theorem dX10_readAny_191 : decode cX10_readAny 191 = .ok (.iconst 0, 1) := dq_g322.2.2.2.2.2.2.2.2.2.2.2.2.1
theorem dX10_readAny_192 : decode cX10_readAny 192 = .ok (.ireturn, 1) := dq_g322.2.2.2.2.2.2.2.2.2.2.2.2.2.1
theorem dX10_readAny_193 : decode cX10_readAny 193 = .ok (.aload_n 0, 1) := dq_g322.2.2.2.2.2.2.2.2.2.2.2.2.2.2.1
theorem dX10_readAny_194 : decode cX10_readAny 194 = .ok (.bipush 41, 2) := dq_g322.2.2.2.2.2.2.2.2.2.2.2.2.2.2.2.1
theorem dX10_readAny_196 : decode cX10_readAny 196 = .ok (.invokevirtual 249, 3) := dq_g322.2.2.2.2.2.2.2.2.2.2.2.2.2.2.2.2.1
theorem dX10_readAny_199 : decode cX10_readAny 199 = .ok (.ifCond .ne 9, 3) := dq_g322.2.2.2.2.2.2.2.2.2.2.2.2.2.2.2.2.2.1
theorem dX10_readAny_202 : decode cX10_readAny 202 = .ok (.aload_n 0, 1) := dq_g322.2.2.2.2.2.2.2.2.2.2.2.2.2.2.2.2.2.2.1
theorem dX10_readAny_203 : decode cX10_readAny 203 = .ok (.iconst 1, 1) := dq_g322.2.2.2.2.2.2.2.2.2.2.2.2.2.2.2.2.2.2.2.1
theorem dX10_readAny_204 : decode cX10_readAny 204 = .ok (.invokevirtual 235, 3) := dq_g322.2.2.2.2.2.2.2.2.2.2.2.2.2.2.2.2.2.2.2.2.1
theorem dX10_readAny_207 : decode cX10_readAny 207 = .ok (.ireturn, 1) := dq_g322.2.2.2.2.2.2.2.2.2.2.2.2.2.2.2.2.2.2.2.2.2.1
theorem dX10_readAny_208 : decode cX10_readAny 208 = .ok (.aload_n 0, 1) := dq_g322.2.2.2.2.2.2.2.2.2.2.2.2.2.2.2.2.2.2.2.2.2.2.1
theorem dX10_readAny_209 : decode cX10_readAny 209 = .ok (.aload_n 0, 1) := dq_g322.2.2.2.2.2.2.2.2.2.2.2.2.2.2.2.2.2.2.2.2.2.2.2.1
theorem dX10_readAny_210 : decode cX10_readAny 210 = .ok (.getfield 258, 3) := dq_g322.2.2.2.2.2.2.2.2.2.2.2.2.2.2.2.2.2.2.2.2.2.2.2.2.1
theorem dX10_readAny_213 : decode cX10_readAny 213 = .ok (.iconst 1, 1) := dq_g322.2.2.2.2.2.2.2.2.2.2.2.2.2.2.2.2.2.2.2.2.2.2.2.2.2.1
theorem dX10_readAny_214 : decode cX10_readAny 214 = .ok (.isub, 1) := dq_g322.2.2.2.2.2.2.2.2.2.2.2.2.2.2.2.2.2.2.2.2.2.2.2.2.2.2.1
theorem dX10_readAny_215 : decode cX10_readAny 215 = .ok (.putfield 258, 3) := dq_g322.2.2.2.2.2.2.2.2.2.2.2.2.2.2.2.2.2.2.2.2.2.2.2.2.2.2.2.1
theorem dX10_readAny_218 : decode cX10_readAny 218 = .ok (.iload_n 1, 1) := dq_g322.2.2.2.2.2.2.2.2.2.2.2.2.2.2.2.2.2.2.2.2.2.2.2.2.2.2.2.2.1
theorem dX10_readAny_219 : decode cX10_readAny 219 = .ok (.iconst 1, 1) := dq_g322.2.2.2.2.2.2.2.2.2.2.2.2.2.2.2.2.2.2.2.2.2.2.2.2.2.2.2.2.2.1
theorem dq_g323 : decode cX10_readAny 220 = .ok (.isub, 1) ∧ decode cX10_readAny 221 = .ok (.istore_n 1, 1) ∧ decode cX10_readAny 222 = .ok (.aload_n 0, 1) ∧ decode cX10_readAny 223 = .ok (.aload_n 0, 1) ∧ decode cX10_readAny 224 = .ok (.getfield 261, 3) ∧ decode cX10_readAny 227 = .ok (.iconst 1, 1) ∧ decode cX10_readAny 228 = .ok (.isub, 1) ∧ decode cX10_readAny 229 = .ok (.putfield 261, 3) ∧ decode cX10_readAny 232 = .ok (.aload_n 0, 1) ∧ decode cX10_readAny 233 = .ok (.bipush 9, 2) ∧ decode cX10_readAny 235 = .ok (.invokevirtual 273, 3) ∧ decode cX10_readAny 238 = .ok (.aload_n 0, 1) ∧ decode cX10_readAny 239 = .ok (.invokevirtual 242, 3) ∧ decode cX10_readAny 242 = .ok (.goto (-233), 3) ∧ True := dqC_ok (c := cX10_readAny) [(220, 1, some (.isub)), (221, 1, some (.istore_n 1)), (222, 1, some (.aload_n 0)), (223, 1, some (.aload_n 0)), (224, 3, some (.getfield 261)), (227, 1, some (.iconst 1)), (228, 1, some (.isub)), (229, 3, some (.putfield 261)), (232, 1, some (.aload_n 0)), (233, 2, some (.bipush 9)), (235, 3, some (.invokevirtual 273)), (238, 1, some (.aload_n 0)), (239, 3, some (.invokevirtual 242)), (242, 3, some (.goto (-233)))] _ 220 rfl (by decide +kernel)
theorem dX10_readAny_220 : decode cX10_readAny 220 = .ok (.isub, 1) := dq_g323.1
theorem dX10_readAny_221 : decode cX10_readAny 221 = .ok (.istore_n 1, 1) := dq_g323.2.1
theorem dX10_readAny_222 : decode cX10_readAny 222 = .ok (.aload_n 0, 1) := dq_g323.2.2.1
theorem dX10_readAny_223 : decode cX10_readAny 223 = .ok (.aload_n 0, 1) := dq_g323.2.2.2.1
theorem dX10_readAny_224 : decode cX10_readAny 224 = .ok (.getfield 261, 3) := dq_g323.2.2.2.2.1
theorem dX10_readAny_227 : decode cX10_readAny 227 = .ok (.iconst 1, 1) := dq_g323.2.2.2.2.2.1
theorem dX10_readAny_228 : decode cX10_readAny 228 = .ok (.isub, 1) := dq_g323.2.2.2.2.2.2.1
theorem dX10_readAny_229 : decode cX10_readAny 229 = .ok (.putfield 261, 3) := dq_g323.2.2.2.2.2.2.2.1
theorem dX10_readAny_232 : decode cX10_readAny 232 = .ok (.aload_n 0, 1) := dq_g323.2.2.2.2.2.2.2.2.1
theorem dX10_readAny_233 : decode cX10_readAny 233 = .ok (.bipush 9, 2) := dq_g323.2.2.2.2.2.2.2.2.2.1
theorem dX10_readAny_235 : decode cX10_readAny 235 = .ok (.invokevirtual 273, 3) := dq_g323.2.2.2.2.2.2.2.2.2.2.1
theorem dX10_readAny_238 : decode cX10_readAny 238 = .ok (.aload_n 0, 1) := dq_g323.2.2.2.2.2.2.2.2.2.2.2.1
theorem dX10_readAny_239 : decode cX10_readAny 239 = .ok (.invokevirtual 242, 3) := dq_g323.2.2.2.2.2.2.2.2.2.2.2.2.1
theorem dX10_readAny_242 : decode cX10_readAny 242 = .ok (.goto (-233), 3) := dq_g323.2.2.2.2.2.2.2.2.2.2.2.2.2.1
theorem dq_g324 : decode cX10_readNumber 0 = .ok (.aload_n 0, 1) ∧ decode cX10_readNumber 1 = .ok (.getfield 202, 3) ∧ decode cX10_readNumber 4 = .ok (.iconst 3, 1) ∧ decode cX10_readNumber 5 = .ok (.if_icmp .eq 9, 3) ∧ decode cX10_readNumber 8 = .ok (.aload_n 0, 1) ∧ decode cX10_readNumber 9 = .ok (.iconst 1, 1) ∧ decode cX10_readNumber 10 = .ok (.invokevirtual 235, 3) ∧ decode cX10_readNumber 13 = .ok (.ireturn, 1) ∧ decode cX10_readNumber 14 = .ok (.aload_n 0, 1) ∧ decode cX10_readNumber 15 = .ok (.aload_n 0, 1) ∧ decode cX10_readNumber 16 = .ok (.getfield 205, 3) ∧ decode cX10_readNumber 19 = .ok (.iload_n 1, 1) ∧ decode cX10_readNumber 20 = .ok (.iload_n 2, 1) ∧ decode cX10_readNumber 21 = .ok (.invokevirtual 177, 3) ∧ decode cX10_readNumber 24 = .ok (.ifCond .ne 9, 3) ∧ decode cX10_readNumber 27 = .ok (.aload_n 0, 1) ∧ decode cX10_readNumber 28 = .ok (.iconst 2, 1) ∧ decode cX10_readNumber 29 = .ok (.invokevirtual 235, 3) ∧ decode cX10_readNumber 32 = .ok (.ireturn, 1) ∧ decode cX10_readNumber 33 = .ok (.aload_n 0, 1) ∧ decode cX10_readNumber 34 = .ok (.getfield 205, 3) ∧ decode cX10_readNumber 37 = .ok (.istore_n 3, 1) ∧ decode cX10_readNumber 38 = .ok (.aload_n 0, 1) ∧ decode cX10_readNumber 39 = .ok (.invokevirtual 242, 3) ∧ decode cX10_readNumber 42 = .ok (.iload_n 3, 1) ∧ decode cX10_readNumber 43 = .ok (.ireturn, 1) ∧ True := dqC_ok (c := cX10_readNumber) [(0, 1, some (.aload_n 0)), (1, 3, some (.getfield 202)), (4, 1, some (.iconst 3)), (5, 3, some (.if_icmp .eq 9)), (8, 1, some (.aload_n 0)), (9, 1, some (.iconst 1)), (10, 3, some (.invokevirtual 235)), (13, 1, some (.ireturn)), (14, 1, some (.aload_n 0)), (15, 1, some (.aload_n 0)), (16, 3, some (.getfield 205)), (19, 1, some (.iload_n 1)), (20, 1, some (.iload_n 2)), (21, 3, some (.invokevirtual 177)), (24, 3, some (.ifCond .ne 9)), (27, 1, some (.aload_n 0)), (28, 1, some (.iconst 2)), (29, 3, some (.invokevirtual 235)), (32, 1, some (.ireturn)), (33, 1, some (.aload_n 0)), (34, 3, some (.getfield 205)), (37, 1, some (.istore_n 3)), (38, 1, some (.aload_n 0)), (39, 3, some (.invokevirtual 242)), (42, 1, some (.iload_n 3)), (43, 1, some (.ireturn))] _ 0 rfl (by decide +kernel)
theorem dX10_readNumber_0 : decode cX10_readNumber 0 = .ok (.aload_n 0, 1) := dq_g324.1
theorem dX10_readNumber_1 : decode cX10_readNumber 1 = .ok (.getfield 202, 3) := dq_g324.2.1
theorem dX10_readNumber_4 : decode cX10_readNumber 4 = .ok (.iconst 3, 1) := dq_g324.2.2.1
theorem dX10_readNumber_5 : decode cX10_readNumber 5 = .ok (.if_icmp .eq 9, 3) := dq_g324.2.2.2.1
theorem dX10_readNumber_8 : decode cX10_readNumber 8 = .ok (.aload_n 0, 1) := dq_g324.2.2.2.2.1
theorem dX10_readNumber_9 : decode cX10_readNumber 9 = .ok (.iconst 1, 1) := dq_g324.2.2.2.2.2.1
theorem dX10_readNumber_10 : decode cX10_readNumber 10 = .ok (.invokevirtual 235, 3) := dq_g324.2.2.2.2.2.2.1
theorem dX10_readNumber_13 : decode cX10_readNumber 13 = .ok (.ireturn, 1) := dq_g324.2.2.2.2.2.2.2.1
theorem dX10_readNumber_14 : decode cX10_readNumber 14 = .ok (.aload_n 0, 1) := dq_g324.2.2.2.2.2.2.2.2.1
theorem dX10_readNumber_15 : decode cX10_readNumber 15 = .ok (.aload_n 0, 1) := dq_g324.2.2.2.2.2.2.2.2.2.1
theorem dX10_readNumber_16 : decode cX10_readNumber 16 = .ok (.getfield 205, 3) := dq_g324.2.2.2.2.2.2.2.2.2.2.1
theorem dX10_readNumber_19 : decode cX10_readNumber 19 = .ok (.iload_n 1, 1) := dq_g324.2.2.2.2.2.2.2.2.2.2.2.1
theorem dX10_readNumber_20 : decode cX10_readNumber 20 = .ok (.iload_n 2, 1) := dq_g324.2.2.2.2.2.2.2.2.2.2.2.2.1
theorem dX10_readNumber_21 : decode cX10_readNumber 21 = .ok (.invokevirtual 177, 3) := dq_g324.2.2.2.2.2.2.2.2.2.2.2.2.2.1
theorem dX10_readNumber_24 : decode cX10_readNumber 24 = .ok (.ifCond .ne 9, 3) := dq_g324.2.2.2.2.2.2.2.2.2.2.2.2.2.2.1
theorem dX10_readNumber_27 : decode cX10_readNumber 27 = .ok (.aload_n 0, 1) := dq_g324.2.2.2.2.2.2.2.2.2.2.2.2.2.2.2.1
theorem dX10_readNumber_28 : decode cX10_readNumber 28 = .ok (.iconst 2, 1) := dq_g324.2.2.2.2.2.2.2.2.2.2.2.2.2.2.2.2.1
theorem dX10_readNumber_29 : decode cX10_readNumber 29 = .ok (.invokevirtual 235, 3) := dq_g324.2.2.2.2.2.2.2.2.2.2.2.2.2.2.2.2.2.1
theorem dX10_readNumber_32 : decode cX10_readNumber 32 = .ok (.ireturn, 1) := dq_g324.2.2.2.2.2.2.2.2.2.2.2.2.2.2.2.2.2.2.1
theorem dX10_readNumber_33 : decode cX10_readNumber 33 = .ok (.aload_n 0, 1) := dq_g324.2.2.2.2.2.2.2.2.2.2.2.2.2.2.2.2.2.2.2.1
theorem dX10_readNumber_34 : decode cX10_readNumber 34 = .ok (.getfield 205, 3) := dq_g324.2.2.2.2.2.2.2.2.2.2.2.2.2.2.2.2.2.2.2.2.1
theorem dX10_readNumber_37 : decode cX10_readNumber 37 = .ok (.istore_n 3, 1) := dq_g324.2.2.2.2.2.2.2.2.2.2.2.2.2.2.2.2.2.2.2.2.2.1
theorem dX10_readNumber_38 : decode cX10_readNumber 38 = .ok (.aload_n 0, 1) := dq_g324.2.2.2.2.2.2.2.2.2.2.2.2.2.2.2.2.2.2.2.2.2.2.1
theorem dX10_readNumber_39 : decode cX10_readNumber 39 = .ok (.invokevirtual 242, 3) := dq_g324.2.2.2.2.2.2.2.2.2.2.2.2.2.2.2.2.2.2.2.2.2.2.2.1
theorem dX10_readNumber_42 : decode cX10_readNumber 42 = .ok (.iload_n 3, 1) := dq_g324.2.2.2.2.2.2.2.2.2.2.2.2.2.2.2.2.2.2.2.2.2.2.2.2.1
theorem dX10_readNumber_43 : decode cX10_readNumber 43 = .ok (.ireturn, 1) := dq_g324.2.2.2.2.2.2.2.2.2.2.2.2.2.2.2.2.2.2.2.2.2.2.2.2.2.1
theorem dq_g325 : decode cX10_isBegin 0 = .ok (.aload_n 0, 1) ∧ decode cX10_isBegin 1 = .ok (.getfield 202, 3) ∧ decode cX10_isBegin 4 = .ok (.iconst 2, 1) ∧ decode cX10_isBegin 5 = .ok (.if_icmp .eq 5, 3) ∧ decode cX10_isBegin 8 = .ok (.iconst 0, 1) ∧ decode cX10_isBegin 9 = .ok (.ireturn, 1) ∧ decode cX10_isBegin 10 = .ok (.aload_n 0, 1) ∧ decode cX10_isBegin 11 = .ok (.getfield 231, 3) ∧ decode cX10_isBegin 14 = .ok (.ifCond .eq 36, 3) ∧ decode cX10_isBegin 17 = .ok (.aload_n 0, 1) ∧ decode cX10_isBegin 18 = .ok (.getfield 205, 3) ∧ decode cX10_isBegin 21 = .ok (.iconst 4, 1) ∧ decode cX10_isBegin 22 = .ok (.if_icmp .eq 20, 3) ∧ decode cX10_isBegin 25 = .ok (.aload_n 0, 1) ∧ decode cX10_isBegin 26 = .ok (.getfield 205, 3) ∧ decode cX10_isBegin 29 = .ok (.iconst 5, 1) ∧ decode cX10_isBegin 30 = .ok (.if_icmp .eq 12, 3) ∧ decode cX10_isBegin 33 = .ok (.aload_n 0, 1) ∧ decode cX10_isBegin 34 = .ok (.getfield 205, 3) ∧ decode cX10_isBegin 37 = .ok (.bipush 17, 2) ∧ decode cX10_isBegin 39 = .ok (.if_icmp .ne 7, 3) ∧ decode cX10_isBegin 42 = .ok (.iconst 1, 1) ∧ decode cX10_isBegin 43 = .ok (.goto 20, 3) ∧ decode cX10_isBegin 46 = .ok (.iconst 0, 1) ∧ decode cX10_isBegin 47 = .ok (.goto 16, 3) ∧ decode cX10_isBegin 50 = .ok (.aload_n 0, 1) ∧ decode cX10_isBegin 51 = .ok (.getfield 205, 3) ∧ decode cX10_isBegin 54 = .ok (.iconst 3, 1) ∧ decode cX10_isBegin 55 = .ok (.if_icmp .gt 7, 3) ∧ decode cX10_isBegin 58 = .ok (.iconst 1, 1) ∧ True := dqC_ok (c := cX10_isBegin) [(0, 1, some (.aload_n 0)), (1, 3, some (.getfield 202)), (4, 1, some (.iconst 2)), (5, 3, some (.if_icmp .eq 5)), (8, 1, some (.iconst 0)), (9, 1, some (.ireturn)), (10, 1, some (.aload_n 0)), (11, 3, some (.getfield 231)), (14, 3, some (.ifCond .eq 36)), (17, 1, some (.aload_n 0)), (18, 3, some (.getfield 205)), (21, 1, some (.iconst 4)), (22, 3, some (.if_icmp .eq 20)), (25, 1, some (.aload_n 0)), (26, 3, some (.getfield 205)), (29, 1, some (.iconst 5)), (30, 3, some (.if_icmp .eq 12)), (33, 1, some (.aload_n 0)), (34, 3, some (.getfield 205)), (37, 2, some (.bipush 17)), (39, 3, some (.if_icmp .ne 7)), (42, 1, some (.iconst 1)), (43, 3, some (.goto 20)), (46, 1, some (.iconst 0)), (47, 3, some (.goto 16)), (50, 1, some (.aload_n 0)), (51, 3, some (.getfield 205)), (54, 1, some (.iconst 3)), (55, 3, some (.if_icmp .gt 7)), (58, 1, some (.iconst 1))] _ 0 rfl (by decide +kernel)
theorem dX10_isBegin_0 : decode cX10_isBegin 0 = .ok (.aload_n 0, 1) := dq_g325.1
theorem dX10_isBegin_1 : decode cX10_isBegin 1 = .ok (.getfield 202, 3) := dq_g325.2.1
theorem dX10_isBegin_4 : decode cX10_isBegin 4 = .ok (.iconst 2, 1) := dq_g325.2.2.1
theorem dX10_isBegin_5 : decode cX10_isBegin 5 = .ok (.if_icmp .eq 5, 3) := dq_g325.2.2.2.1
theorem dX10_isBegin_8 : decode cX10_isBegin 8 = .ok (.iconst 0, 1) := dq_g325.2.2.2.2.1
theorem dX10_isBegin_9 : decode cX10_isBegin 9 = .ok (.ireturn, 1) := dq_g325.2.2.2.2.2.1
theorem dX10_isBegin_10 : decode cX10_isBegin 10 = .ok (.aload_n 0, 1) := dq_g325.2.2.2.2.2.2.1
theorem dX10_isBegin_11 : decode cX10_isBegin 11 = .ok (.getfield 231, 3) := dq_g325.2.2.2.2.2.2.2.1
theorem dX10_isBegin_14 : decode cX10_isBegin 14 = .ok (.ifCond .eq 36, 3) := dq_g325.2.2.2.2.2.2.2.2.1
theorem dX10_isBegin_17 : decode cX10_isBegin 17 = .ok (.aload_n 0, 1) := dq_g325.2.2.2.2.2.2.2.2.2.1
theorem dX10_isBegin_18 : decode cX10_isBegin 18 = .ok (.getfield 205, 3) := dq_g325.2.2.2.2.2.2.2.2.2.2.1
theorem dX10_isBegin_21 : decode cX10_isBegin 21 = .ok (.iconst 4, 1) := dq_g325.2.2.2.2.2.2.2.2.2.2.2.1
theorem dX10_isBegin_22 : decode cX10_isBegin 22 = .ok (.if_icmp .eq 20, 3) := dq_g325.2.2.2.2.2.2.2.2.2.2.2.2.1
theorem dX10_isBegin_25 : decode cX10_isBegin 25 = .ok (.aload_n 0, 1) := dq_g325.2.2.2.2.2.2.2.2.2.2.2.2.2.1
theorem dX10_isBegin_26 : decode cX10_isBegin 26 = .ok (.getfield 205, 3) := dq_g325.2.2.2.2.2.2.2.2.2.2.2.2.2.2.1
theorem dX10_isBegin_29 : decode cX10_isBegin 29 = .ok (.iconst 5, 1) := dq_g325.2.2.2.2.2.2.2.2.2.2.2.2.2.2.2.1
theorem dX10_isBegin_30 : decode cX10_isBegin 30 = .ok (.if_icmp .eq 12, 3) := dq_g325.2.2.2.2.2.2.2.2.2.2.2.2.2.2.2.2.1
theorem dX10_isBegin_33 : decode cX10_isBegin 33 = .ok (.aload_n 0, 1) := dq_g325.2.2.2.2.2.2.2.2.2.2.2.2.2.2.2.2.2.1
theorem dX10_isBegin_34 : decode cX10_isBegin 34 = .ok (.getfield 205, 3) := dq_g325.2.2.2.2.2.2.2.2.2.2.2.2.2.2.2.2.2.2.1
theorem dX10_isBegin_37 : decode cX10_isBegin 37 = .ok (.bipush 17, 2) := dq_g325.2.2.2.2.2.2.2.2.2.2.2.2.2.2.2.2.2.2.2.1
theorem dX10_isBegin_39 : decode cX10_isBegin 39 = .ok (.if_icmp .ne 7, 3) := dq_g325.2.2.2.2.2.2.2.2.2.2.2.2.2.2.2.2.2.2.2.2.1
theorem dX10_isBegin_42 : decode cX10_isBegin 42 = .ok (.iconst 1, 1) := dq_g325.2.2.2.2.2.2.2.2.2.2.2.2.2.2.2.2.2.2.2.2.2.1
theorem dX10_isBegin_43 : decode cX10_isBegin 43 = .ok (.goto 20, 3) := dq_g325.2.2.2.2.2.2.2.2.2.2.2.2.2.2.2.2.2.2.2.2.2.2.1
theorem dX10_isBegin_46 : decode cX10_isBegin 46 = .ok (.iconst 0, 1) := dq_g325.2.2.2.2.2.2.2.2.2.2.2.2.2.2.2.2.2.2.2.2.2.2.2.1
theorem dX10_isBegin_47 : decode cX10_isBegin 47 = .ok (.goto 16, 3) := dq_g325.2.2.2.2.2.2.2.2.2.2.2.2.2.2.2.2.2.2.2.2.2.2.2.2.1
theorem dX10_isBegin_50 : decode cX10_isBegin 50 = .ok (.aload_n 0, 1) := dq_g325.2.2.2.2.2.2.2.2.2.2.2.2.2.2.2.2.2.2.2.2.2.2.2.2.2.1
theorem dX10_isBegin_51 : decode cX10_isBegin 51 = .ok (.getfield 205, 3) := dq_g325.2.2.2.2.2.2.2.2.2.2.2.2.2.2.2.2.2.2.2.2.2.2.2.2.2.2.1
theorem dX10_isBegin_54 : decode cX10_isBegin 54 = .ok (.iconst 3, 1) := dq_g325.2.2.2.2.2.2.2.2.2.2.2.2.2.2.2.2.2.2.2.2.2.2.2.2.2.2.2.1
theorem dX10_isBegin_55 : decode cX10_isBegin 55 = .ok (.if_icmp .gt 7, 3) := dq_g325.2.2.2.2.2.2.2.2.2.2.2.2.2.2.2.2.2.2.2.2.2.2.2.2.2.2.2.2.1
theorem dX10_isBegin_58 : decode cX10_isBegin 58 = .ok (.iconst 1, 1) := dq_g325.2.2.2.2.2.2.2.2.2.2.2.2.2.2.2.2.2.2.2.2.2.2.2.2.2.2.2.2.2.1
theorem dq_g326 : decode cX10_isBegin 59 = .ok (.goto 4, 3) ∧ decode cX10_isBegin 62 = .ok (.iconst 0, 1) ∧ decode cX10_isBegin 63 = .ok (.ireturn, 1) ∧ True := dqC_ok (c := cX10_isBegin) [(59, 3, some (.goto 4)), (62, 1, some (.iconst 0)), (63, 1, some (.ireturn))] _ 59 rfl (by decide +kernel)
theorem dX10_isBegin_59 : decode cX10_isBegin 59 = .ok (.goto 4, 3) := dq_g326.1
theorem dX10_isBegin_62 : decode cX10_isBegin 62 = .ok (.iconst 0, 1) := dq_g326.2.1
theorem dX10_isBegin_63 : decode cX10_isBegin 63 = .ok (.ireturn, 1) := dq_g326.2.2.1
theorem dq_g327 : decode cX10_readNumbers 0 = .ok (.aload_n 0, 1) ∧ decode cX10_readNumbers 1 = .ok (.getfield 65, 3) ∧ decode cX10_readNumbers 4 = .ok (.iload_n 1, 1) ∧ decode cX10_readNumbers 5 = .ok (.iconst 0, 1) ∧ decode cX10_readNumbers 6 = .ok (.iastore, 1) ∧ decode cX10_readNumbers 7 = .ok (.aload_n 0, 1) ∧ decode cX10_readNumbers 8 = .ok (.getfield 68, 3) ∧ decode cX10_readNumbers 11 = .ok (.iload_n 1, 1) ∧ decode cX10_readNumbers 12 = .ok (.iconst 0, 1) ∧ decode cX10_readNumbers 13 = .ok (.iastore, 1) ∧ decode cX10_readNumbers 14 = .ok (.aload_n 0, 1) ∧ decode cX10_readNumbers 15 = .ok (.getfield 71, 3) ∧ decode cX10_readNumbers 18 = .ok (.iload_n 1, 1) ∧ decode cX10_readNumbers 19 = .ok (.iconst 0, 1) ∧ decode cX10_readNumbers 20 = .ok (.iastore, 1) ∧ decode cX10_readNumbers 21 = .ok (.iload_n 2, 1) ∧ decode cX10_readNumbers 22 = .ok (.iconst 3, 1) ∧ decode cX10_readNumbers 23 = .ok (.if_icmp .ne 5, 3) ∧ decode cX10_readNumbers 26 = .ok (.iconst 0, 1) ∧ decode cX10_readNumbers 27 = .ok (.ireturn, 1) ∧ decode cX10_readNumbers 28 = .ok (.aload_n 0, 1) ∧ decode cX10_readNumbers 29 = .ok (.getfield 65, 3) ∧ decode cX10_readNumbers 32 = .ok (.iload_n 1, 1) ∧ decode cX10_readNumbers 33 = .ok (.aload_n 0, 1) ∧ decode cX10_readNumbers 34 = .ok (.iconst 0, 1) ∧ decode cX10_readNumbers 35 = .ok (.aload_n 0, 1) ∧ decode cX10_readNumbers 36 = .ok (.getfield 231, 3) ∧ decode cX10_readNumbers 39 = .ok (.ifCond .eq 8, 3) ∧ decode cX10_readNumbers 42 = .ok (.bipush 15, 2) ∧ decode cX10_readNumbers 44 = .ok (.goto 4, 3) ∧ True := dqC_ok (c := cX10_readNumbers) [(0, 1, some (.aload_n 0)), (1, 3, some (.getfield 65)), (4, 1, some (.iload_n 1)), (5, 1, some (.iconst 0)), (6, 1, some (.iastore)), (7, 1, some (.aload_n 0)), (8, 3, some (.getfield 68)), (11, 1, some (.iload_n 1)), (12, 1, some (.iconst 0)), (13, 1, some (.iastore)), (14, 1, some (.aload_n 0)), (15, 3, some (.getfield 71)), (18, 1, some (.iload_n 1)), (19, 1, some (.iconst 0)), (20, 1, some (.iastore)), (21, 1, some (.iload_n 2)), (22, 1, some (.iconst 3)), (23, 3, some (.if_icmp .ne 5)), (26, 1, some (.iconst 0)), (27, 1, some (.ireturn)), (28, 1, some (.aload_n 0)), (29, 3, some (.getfield 65)), (32, 1, some (.iload_n 1)), (33, 1, some (.aload_n 0)), (34, 1, some (.iconst 0)), (35, 1, some (.aload_n 0)), (36, 3, some (.getfield 231)), (39, 3, some (.ifCond .eq 8)), (42, 2, some (.bipush 15)), (44, 3, some (.goto 4))] _ 0 rfl (by decide +kernel)
theorem dX10_readNumbers_0 : decode cX10_readNumbers 0 = .ok (.aload_n 0, 1) := dq_g327.1
theorem dX10_readNumbers_1 : decode cX10_readNumbers 1 = .ok (.getfield 65, 3) := dq_g327.2.1
theorem dX10_readNumbers_4 : decode cX10_readNumbers 4 = .ok (.iload_n 1, 1) := dq_g327.2.2.1
theorem dX10_readNumbers_5 : decode cX10_readNumbers 5 = .ok (.iconst 0, 1) := dq_g327.2.2.2.1
theorem dX10_readNumbers_6 : decode cX10_readNumbers 6 = .ok (.iastore, 1) := dq_g327.2.2.2.2.1
theorem dX10_readNumbers_7 : decode cX10_readNumbers 7 = .ok (.aload_n 0, 1) := dq_g327.2.2.2.2.2.1
theorem dX10_readNumbers_8 : decode cX10_readNumbers 8 = .ok (.getfield 68, 3) := dq_g327.2.2.2.2.2.2.1
theorem dX10_readNumbers_11 : decode cX10_readNumbers 11 = .ok (.iload_n 1, 1) := dq_g327.2.2.2.2.2.2.2.1
theorem dX10_readNumbers_12 : decode cX10_readNumbers 12 = .ok (.iconst 0, 1) := dq_g327.2.2.2.2.2.2.2.2.1
theorem dX10_readNumbers_13 : decode cX10_readNumbers 13 = .ok (.iastore, 1) := dq_g327.2.2.2.2.2.2.2.2.2.1
theorem dX10_readNumbers_14 : decode cX10_readNumbers 14 = .ok (.aload_n 0, 1) := dq_g327.2.2.2.2.2.2.2.2.2.2.1
theorem dX10_readNumbers_15 : decode cX10_readNumbers 15 = .ok (.getfield 71, 3) := dq_g327.2.2.2.2.2.2.2.2.2.2.2.1
theorem dX10_readNumbers_18 : decode cX10_readNumbers 18 = .ok (.iload_n 1, 1) := dq_g327.2.2.2.2.2.2.2.2.2.2.2.2.1
theorem dX10_readNumbers_19 : decode cX10_readNumbers 19 = .ok (.iconst 0, 1) := dq_g327.2.2.2.2.2.2.2.2.2.2.2.2.2.1
theorem dX10_readNumbers_20 : decode cX10_readNumbers 20 = .ok (.iastore, 1) := dq_g327.2.2.2.2.2.2.2.2.2.2.2.2.2.2.1
theorem dX10_readNumbers_21 : decode cX10_readNumbers 21 = .ok (.iload_n 2, 1) := dq_g327.2.2.2.2.2.2.2.2.2.2.2.2.2.2.2.1
theorem dX10_readNumbers_22 : decode cX10_readNumbers 22 = .ok (.iconst 3, 1) := dq_g327.2.2.2.2.2.2.2.2.2.2.2.2.2.2.2.2.1
theorem dX10_readNumbers_23 : decode cX10_readNumbers 23 = .ok (.if_icmp .ne 5, 3) := dq_g327.2.2.2.2.2.2.2.2.2.2.2.2.2.2.2.2.2.1
theorem dX10_readNumbers_26 : decode cX10_readNumbers 26 = .ok (.iconst 0, 1) := dq_g327.2.2.2.2.2.2.2.2.2.2.2.2.2.2.2.2.2.2.1
theorem dX10_readNumbers_27 : decode cX10_readNumbers 27 = .ok (.ireturn, 1) := dq_g327.2.2.2.2.2.2.2.2.2.2.2.2.2.2.2.2.2.2.2.1
theorem dX10_readNumbers_28 : decode cX10_readNumbers 28 = .ok (.aload_n 0, 1) := dq_g327.2.2.2.2.2.2.2.2.2.2.2.2.2.2.2.2.2.2.2.2.1
theorem dX10_readNumbers_29 : decode cX10_readNumbers 29 = .ok (.getfield 65, 3) := dq_g327.2.2.2.2.2.2.2.2.2.2.2.2.2.2.2.2.2.2.2.2.2.1
theorem dX10_readNumbers_32 : decode cX10_readNumbers 32 = .ok (.iload_n 1, 1) := dq_g327.2.2.2.2.2.2.2.2.2.2.2.2.2.2.2.2.2.2.2.2.2.2.1
theorem dX10_readNumbers_33 : decode cX10_readNumbers 33 = .ok (.aload_n 0, 1) := dq_g327.2.2.2.2.2.2.2.2.2.2.2.2.2.2.2.2.2.2.2.2.2.2.2.1
theorem dX10_readNumbers_34 : decode cX10_readNumbers 34 = .ok (.iconst 0, 1) := dq_g327.2.2.2.2.2.2.2.2.2.2.2.2.2.2.2.2.2.2.2.2.2.2.2.2.1
theorem dX10_readNumbers_35 : decode cX10_readNumbers 35 = .ok (.aload_n 0, 1) := dq_g327.2.2.2.2.2.2.2.2.2.2.2.2.2.2.2.2.2.2.2.2.2.2.2.2.2.1
theorem dX10_readNumbers_36 : decode cX10_readNumbers 36 = .ok (.getfield 231, 3) := dq_g327.2.2.2.2.2.2.2.2.2.2.2.2.2.2.2.2.2.2.2.2.2.2.2.2.2.2.1
theorem dX10_readNumbers_39 : decode cX10_readNumbers 39 = .ok (.ifCond .eq 8, 3) := dq_g327.2.2.2.2.2.2.2.2.2.2.2.2.2.2.2.2.2.2.2.2.2.2.2.2.2.2.2.1
theorem dX10_readNumbers_42 : decode cX10_readNumbers 42 = .ok (.bipush 15, 2) := dq_g327.2.2.2.2.2.2.2.2.2.2.2.2.2.2.2.2.2.2.2.2.2.2.2.2.2.2.2.2.1
theorem dX10_readNumbers_44 : decode cX10_readNumbers 44 = .ok (.goto 4, 3) := dq_g327.2.2.2.2.2.2.2.2.2.2.2.2.2.2.2.2.2.2.2.2.2.2.2.2.2.2.2.2.2.1
theorem dq_g328 : decode cX10_readNumbers 47 = .ok (.iconst 2, 1) ∧ decode cX10_readNumbers 48 = .ok (.invokevirtual 276, 3) ∧ decode cX10_readNumbers 51 = .ok (.iastore, 1) ∧ decode cX10_readNumbers 52 = .ok (.aload_n 0, 1) ∧ decode cX10_readNumbers 53 = .ok (.getfield 65, 3) ∧ decode cX10_readNumbers 56 = .ok (.iload_n 1, 1) ∧ decode cX10_readNumbers 57 = .ok (.iaload, 1) ∧ decode cX10_readNumbers 58 = .ok (.iconst (-1), 1) ∧ decode cX10_readNumbers 59 = .ok (.if_icmp .eq 10, 3) ∧ decode cX10_readNumbers 62 = .ok (.aload_n 0, 1) ∧ decode cX10_readNumbers 63 = .ok (.getfield 231, 3) ∧ decode cX10_readNumbers 66 = .ok (.ifCond .ne 10, 3) ∧ decode cX10_readNumbers 69 = .ok (.aload_n 0, 1) ∧ decode cX10_readNumbers 70 = .ok (.getfield 65, 3) ∧ decode cX10_readNumbers 73 = .ok (.iload_n 1, 1) ∧ decode cX10_readNumbers 74 = .ok (.iaload, 1) ∧ decode cX10_readNumbers 75 = .ok (.ireturn, 1) ∧ decode cX10_readNumbers 76 = .ok (.iload_n 2, 1) ∧ decode cX10_readNumbers 77 = .ok (.iconst 5, 1) ∧ decode cX10_readNumbers 78 = .ok (.if_icmp .ne 16, 3) ∧ decode cX10_readNumbers 81 = .ok (.aload_n 0, 1) ∧ decode cX10_readNumbers 82 = .ok (.getfield 68, 3) ∧ decode cX10_readNumbers 85 = .ok (.iload_n 1, 1) ∧ decode cX10_readNumbers 86 = .ok (.aload_n 0, 1) ∧ decode cX10_readNumbers 87 = .ok (.iconst 0, 1) ∧ decode cX10_readNumbers 88 = .ok (.bipush 15, 2) ∧ decode cX10_readNumbers 90 = .ok (.invokevirtual 276, 3) ∧ decode cX10_readNumbers 93 = .ok (.iastore, 1) ∧ decode cX10_readNumbers 94 = .ok (.aload_n 0, 1) ∧ decode cX10_readNumbers 95 = .ok (.getfield 68, 3) ∧ True := dqC_ok (c := cX10_readNumbers) [(47, 1, some (.iconst 2)), (48, 3, some (.invokevirtual 276)), (51, 1, some (.iastore)), (52, 1, some (.aload_n 0)), (53, 3, some (.getfield 65)), (56, 1, some (.iload_n 1)), (57, 1, some (.iaload)), (58, 1, some (.iconst (-1))), (59, 3, some (.if_icmp .eq 10)), (62, 1, some (.aload_n 0)), (63, 3, some (.getfield 231)), (66, 3, some (.ifCond .ne 10)), (69, 1, some (.aload_n 0)), (70, 3, some (.getfield 65)), (73, 1, some (.iload_n 1)), (74, 1, some (.iaload)), (75, 1, some (.ireturn)), (76, 1, some (.iload_n 2)), (77, 1, some (.iconst 5)), (78, 3, some (.if_icmp .ne 16)), (81, 1, some (.aload_n 0)), (82, 3, some (.getfield 68)), (85, 1, some (.iload_n 1)), (86, 1, some (.aload_n 0)), (87, 1, some (.iconst 0)), (88, 2, some (.bipush 15)), (90, 3, some (.invokevirtual 276)), (93, 1, some (.iastore)), (94, 1, some (.aload_n 0)), (95, 3, some (.getfield 68))] _ 47 rfl (by decide +kernel)
theorem dX10_readNumbers_47 : decode cX10_readNumbers 47 = .ok (.iconst 2, 1) := dq_g328.1
theorem dX10_readNumbers_48 : decode cX10_readNumbers 48 = .ok (.invokevirtual 276, 3) := dq_g328.2.1
theorem dX10_readNumbers_51 : decode cX10_readNumbers 51 = .ok (.iastore, 1) := dq_g328.2.2.1
theorem dX10_readNumbers_52 : decode cX10_readNumbers 52 = .ok (.aload_n 0, 1) := dq_g328.2.2.2.1
theorem dX10_readNumbers_53 : decode cX10_readNumbers 53 = .ok (.getfield 65, 3) := dq_g328.2.2.2.2.1
theorem dX10_readNumbers_56 : decode cX10_readNumbers 56 = .ok (.iload_n 1, 1) := dq_g328.2.2.2.2.2.1
theorem dX10_readNumbers_57 : decode cX10_readNumbers 57 = .ok (.iaload, 1) := dq_g328.2.2.2.2.2.2.1
theorem dX10_readNumbers_58 : decode cX10_readNumbers 58 = .ok (.iconst (-1), 1) := dq_g328.2.2.2.2.2.2.2.1
theorem dX10_readNumbers_59 : decode cX10_readNumbers 59 = .ok (.if_icmp .eq 10, 3) := dq_g328.2.2.2.2.2.2.2.2.1
theorem dX10_readNumbers_62 : decode cX10_readNumbers 62 = .ok (.aload_n 0, 1) := dq_g328.2.2.2.2.2.2.2.2.2.1
theorem dX10_readNumbers_63 : decode cX10_readNumbers 63 = .ok (.getfield 231, 3) := dq_g328.2.2.2.2.2.2.2.2.2.2.1
theorem dX10_readNumbers_66 : decode cX10_readNumbers 66 = .ok (.ifCond .ne 10, 3) := dq_g328.2.2.2.2.2.2.2.2.2.2.2.1
theorem dX10_readNumbers_69 : decode cX10_readNumbers 69 = .ok (.aload_n 0, 1) := dq_g328.2.2.2.2.2.2.2.2.2.2.2.2.1
theorem dX10_readNumbers_70 : decode cX10_readNumbers 70 = .ok (.getfield 65, 3) := dq_g328.2.2.2.2.2.2.2.2.2.2.2.2.2.1
theorem dX10_readNumbers_73 : decode cX10_readNumbers 73 = .ok (.iload_n 1, 1) := dq_g328.2.2.2.2.2.2.2.2.2.2.2.2.2.2.1
theorem dX10_readNumbers_74 : decode cX10_readNumbers 74 = .ok (.iaload, 1) := dq_g328.2.2.2.2.2.2.2.2.2.2.2.2.2.2.2.1
theorem dX10_readNumbers_75 : decode cX10_readNumbers 75 = .ok (.ireturn, 1) := dq_g328.2.2.2.2.2.2.2.2.2.2.2.2.2.2.2.2.1
theorem dX10_readNumbers_76 : decode cX10_readNumbers 76 = .ok (.iload_n 2, 1) := dq_g328.2.2.2.2.2.2.2.2.2.2.2.2.2.2.2.2.2.1
theorem dX10_readNumbers_77 : decode cX10_readNumbers 77 = .ok (.iconst 5, 1) := dq_g328.2.2.2.2.2.2.2.2.2.2.2.2.2.2.2.2.2.2.1
theorem dX10_readNumbers_78 : decode cX10_readNumbers 78 = .ok (.if_icmp .ne 16, 3) := dq_g328.2.2.2.2.2.2.2.2.2.2.2.2.2.2.2.2.2.2.2.1
theorem dX10_readNumbers_81 : decode cX10_readNumbers 81 = .ok (.aload_n 0, 1) := dq_g328.2.2.2.2.2.2.2.2.2.2.2.2.2.2.2.2.2.2.2.2.1
theorem dX10_readNumbers_82 : decode cX10_readNumbers 82 = .ok (.getfield 68, 3) := dq_g328.2.2.2.2.2.2.2.2.2.2.2.2.2.2.2.2.2.2.2.2.2.1
theorem dX10_readNumbers_85 : decode cX10_readNumbers 85 = .ok (.iload_n 1, 1) := dq_g328.2.2.2.2.2.2.2.2.2.2.2.2.2.2.2.2.2.2.2.2.2.2.1
theorem dX10_readNumbers_86 : decode cX10_readNumbers 86 = .ok (.aload_n 0, 1) := dq_g328.2.2.2.2.2.2.2.2.2.2.2.2.2.2.2.2.2.2.2.2.2.2.2.1
theorem dX10_readNumbers_87 : decode cX10_readNumbers 87 = .ok (.iconst 0, 1) := dq_g328.2.2.2.2.2.2.2.2.2.2.2.2.2.2.2.2.2.2.2.2.2.2.2.2.1
theorem dX10_readNumbers_88 : decode cX10_readNumbers 88 = .ok (.bipush 15, 2) := dq_g328.2.2.2.2.2.2.2.2.2.2.2.2.2.2.2.2.2.2.2.2.2.2.2.2.2.1
theorem dX10_readNumbers_90 : decode cX10_readNumbers 90 = .ok (.invokevirtual 276, 3) := dq_g328.2.2.2.2.2.2.2.2.2.2.2.2.2.2.2.2.2.2.2.2.2.2.2.2.2.2.1
theorem dX10_readNumbers_93 : decode cX10_readNumbers 93 = .ok (.iastore, 1) := dq_g328.2.2.2.2.2.2.2.2.2.2.2.2.2.2.2.2.2.2.2.2.2.2.2.2.2.2.2.1
theorem dX10_readNumbers_94 : decode cX10_readNumbers 94 = .ok (.aload_n 0, 1) := dq_g328.2.2.2.2.2.2.2.2.2.2.2.2.2.2.2.2.2.2.2.2.2.2.2.2.2.2.2.2.1
theorem dX10_readNumbers_95 : decode cX10_readNumbers 95 = .ok (.getfield 68, 3) := dq_g328.2.2.2.2.2.2.2.2.2.2.2.2.2.2.2.2.2.2.2.2.2.2.2.2.2.2.2.2.2.1
theorem dq_g329 : decode cX10_readNumbers 98 = .ok (.iload_n 1, 1) ∧ decode cX10_readNumbers 99 = .ok (.iaload, 1) ∧ decode cX10_readNumbers 100 = .ok (.iconst (-1), 1) ∧ decode cX10_readNumbers 101 = .ok (.if_icmp .ne 5, 3) ∧ decode cX10_readNumbers 104 = .ok (.iconst (-1), 1) ∧ decode cX10_readNumbers 105 = .ok (.ireturn, 1) ∧ decode cX10_readNumbers 106 = .ok (.aload_n 0, 1) ∧ decode cX10_readNumbers 107 = .ok (.getfield 71, 3) ∧ decode cX10_readNumbers 110 = .ok (.iload_n 1, 1) ∧ decode cX10_readNumbers 111 = .ok (.iload_n 2, 1) ∧ decode cX10_readNumbers 112 = .ok (.bipush 17, 2) ∧ decode cX10_readNumbers 114 = .ok (.if_icmp .ne 13, 3) ∧ decode cX10_readNumbers 117 = .ok (.aload_n 0, 1) ∧ decode cX10_readNumbers 118 = .ok (.iconst 0, 1) ∧ decode cX10_readNumbers 119 = .ok (.bipush 99, 2) ∧ decode cX10_readNumbers 121 = .ok (.invokevirtual 276, 3) ∧ decode cX10_readNumbers 124 = .ok (.goto 10, 3) ∧ decode cX10_readNumbers 127 = .ok (.aload_n 0, 1) ∧ decode cX10_readNumbers 128 = .ok (.iconst 1, 1) ∧ decode cX10_readNumbers 129 = .ok (.bipush 9, 2) ∧ decode cX10_readNumbers 131 = .ok (.invokevirtual 276, 3) ∧ decode cX10_readNumbers 134 = .ok (.iastore, 1) ∧ decode cX10_readNumbers 135 = .ok (.aload_n 0, 1) ∧ decode cX10_readNumbers 136 = .ok (.getfield 71, 3) ∧ decode cX10_readNumbers 139 = .ok (.iload_n 1, 1) ∧ decode cX10_readNumbers 140 = .ok (.iaload, 1) ∧ decode cX10_readNumbers 141 = .ok (.ireturn, 1) ∧ True := dqC_ok (c := cX10_readNumbers) [(98, 1, some (.iload_n 1)), (99, 1, some (.iaload)), (100, 1, some (.iconst (-1))), (101, 3, some (.if_icmp .ne 5)), (104, 1, some (.iconst (-1))), (105, 1, some (.ireturn)), (106, 1, some (.aload_n 0)), (107, 3, some (.getfield 71)), (110, 1, some (.iload_n 1)), (111, 1, some (.iload_n 2)), (112, 2, some (.bipush 17)), (114, 3, some (.if_icmp .ne 13)), (117, 1, some (.aload_n 0)), (118, 1, some (.iconst 0)), (119, 2, some (.bipush 99)), (121, 3, some (.invokevirtual 276)), (124, 3, some (.goto 10)), (127, 1, some (.aload_n 0)), (128, 1, some (.iconst 1)), (129, 2, some (.bipush 9)), (131, 3, some (.invokevirtual 276)), (134, 1, some (.iastore)), (135, 1, some (.aload_n 0)), (136, 3, some (.getfield 71)), (139, 1, some (.iload_n 1)), (140, 1, some (.iaload)), (141, 1, some (.ireturn))] _ 98 rfl (by decide +kernel)
theorem dX10_readNumbers_98 : decode cX10_readNumbers 98 = .ok (.iload_n 1, 1) := dq_g329.1
theorem dX10_readNumbers_99 : decode cX10_readNumbers 99 = .ok (.iaload, 1) := dq_g329.2.1
theorem dX10_readNumbers_100 : decode cX10_readNumbers 100 = .ok (.iconst (-1), 1) := dq_g329.2.2.1
theorem dX10_readNumbers_101 : decode cX10_readNumbers 101 = .ok (.if_icmp .ne 5, 3) := dq_g329.2.2.2.1
theorem dX10_readNumbers_104 : decode cX10_readNumbers 104 = .ok (.iconst (-1), 1) := dq_g329.2.2.2.2.1
theorem dX10_readNumbers_105 : decode cX10_readNumbers 105 = .ok (.ireturn, 1) := dq_g329.2.2.2.2.2.1
theorem dX10_readNumbers_106 : decode cX10_readNumbers 106 = .ok (.aload_n 0, 1) := dq_g329.2.2.2.2.2.2.1
theorem dX10_readNumbers_107 : decode cX10_readNumbers 107 = .ok (.getfield 71, 3) := dq_g329.2.2.2.2.2.2.2.1
theorem dX10_readNumbers_110 : decode cX10_readNumbers 110 = .ok (.iload_n 1, 1) := dq_g329.2.2.2.2.2.2.2.2.1
theorem dX10_readNumbers_111 : decode cX10_readNumbers 111 = .ok (.iload_n 2, 1) := dq_g329.2.2.2.2.2.2.2.2.2.1
theorem dX10_readNumbers_112 : decode cX10_readNumbers 112 = .ok (.bipush 17, 2) := dq_g329.2.2.2.2.2.2.2.2.2.2.1
theorem dX10_readNumbers_114 : decode cX10_readNumbers 114 = .ok (.if_icmp .ne 13, 3) := dq_g329.2.2.2.2.2.2.2.2.2.2.2.1
theorem dX10_readNumbers_117 : decode cX10_readNumbers 117 = .ok (.aload_n 0, 1) := dq_g329.2.2.2.2.2.2.2.2.2.2.2.2.1
theorem dX10_readNumbers_118 : decode cX10_readNumbers 118 = .ok (.iconst 0, 1) := dq_g329.2.2.2.2.2.2.2.2.2.2.2.2.2.1
theorem dX10_readNumbers_119 : decode cX10_readNumbers 119 = .ok (.bipush 99, 2) := dq_g329.2.2.2.2.2.2.2.2.2.2.2.2.2.2.1
theorem dX10_readNumbers_121 : decode cX10_readNumbers 121 = .ok (.invokevirtual 276, 3) := dq_g329.2.2.2.2.2.2.2.2.2.2.2.2.2.2.2.1
theorem dX10_readNumbers_124 : decode cX10_readNumbers 124 = .ok (.goto 10, 3) := dq_g329.2.2.2.2.2.2.2.2.2.2.2.2.2.2.2.2.1
theorem dX10_readNumbers_127 : decode cX10_readNumbers 127 = .ok (.aload_n 0, 1) := dq_g329.2.2.2.2.2.2.2.2.2.2.2.2.2.2.2.2.2.1
theorem dX10_readNumbers_128 : decode cX10_readNumbers 128 = .ok (.iconst 1, 1) := dq_g329.2.2.2.2.2.2.2.2.2.2.2.2.2.2.2.2.2.2.1
theorem dX10_readNumbers_129 : decode cX10_readNumbers 129 = .ok (.bipush 9, 2) := dq_g329.2.2.2.2.2.2.2.2.2.2.2.2.2.2.2.2.2.2.2.1
theorem dX10_readNumbers_131 : decode cX10_readNumbers 131 = .ok (.invokevirtual 276, 3) := dq_g329.2.2.2.2.2.2.2.2.2.2.2.2.2.2.2.2.2.2.2.2.1
theorem dX10_readNumbers_134 : decode cX10_readNumbers 134 = .ok (.iastore, 1) := dq_g329.2.2.2.2.2.2.2.2.2.2.2.2.2.2.2.2.2.2.2.2.2.1
theorem dX10_readNumbers_135 : decode cX10_readNumbers 135 = .ok (.aload_n 0, 1) := dq_g329.2.2.2.2.2.2.2.2.2.2.2.2.2.2.2.2.2.2.2.2.2.2.1
theorem dX10_readNumbers_136 : decode cX10_readNumbers 136 = .ok (.getfield 71, 3) := dq_g329.2.2.2.2.2.2.2.2.2.2.2.2.2.2.2.2.2.2.2.2.2.2.2.1
theorem dX10_readNumbers_139 : decode cX10_readNumbers 139 = .ok (.iload_n 1, 1) := dq_g329.2.2.2.2.2.2.2.2.2.2.2.2.2.2.2.2.2.2.2.2.2.2.2.2.1
theorem dX10_readNumbers_140 : decode cX10_readNumbers 140 = .ok (.iaload, 1) := dq_g329.2.2.2.2.2.2.2.2.2.2.2.2.2.2.2.2.2.2.2.2.2.2.2.2.2.1
theorem dX10_readNumbers_141 : decode cX10_readNumbers 141 = .ok (.ireturn, 1) := dq_g329.2.2.2.2.2.2.2.2.2.2.2.2.2.2.2.2.2.2.2.2.2.2.2.2.2.2.1
theorem dq_g330 : decode cX10_readLine 0 = .ok (.aload_n 0, 1) ∧ decode cX10_readLine 1 = .ok (.getfield 205, 3) ∧ decode cX10_readLine 4 = .ok (.istore_n 2, 1) ∧ decode cX10_readLine 5 = .ok (.aload_n 0, 1) ∧ decode cX10_readLine 6 = .ok (.getfield 62, 3) ∧ decode cX10_readLine 9 = .ok (.iload_n 1, 1) ∧ decode cX10_readLine 10 = .ok (.iload_n 2, 1) ∧ decode cX10_readLine 11 = .ok (.iastore, 1) ∧ decode cX10_readLine 12 = .ok (.aload_n 0, 1) ∧ decode cX10_readLine 13 = .ok (.invokevirtual 242, 3) ∧ decode cX10_readLine 16 = .ok (.aload_n 0, 1) ∧ decode cX10_readLine 17 = .ok (.iload_n 1, 1) ∧ decode cX10_readLine 18 = .ok (.iload_n 2, 1) ∧ decode cX10_readLine 19 = .ok (.invokevirtual 279, 3) ∧ decode cX10_readLine 22 = .ok (.iconst (-1), 1) ∧ decode cX10_readLine 23 = .ok (.if_icmp .ne 5, 3) ∧ decode cX10_readLine 26 = .ok (.iconst (-1), 1) ∧ decode cX10_readLine 27 = .ok (.ireturn, 1) ∧ decode cX10_readLine 28 = .ok (.aload_n 0, 1) ∧ decode cX10_readLine 29 = .ok (.getfield 74, 3) ∧ decode cX10_readLine 32 = .ok (.iload_n 1, 1) ∧ decode cX10_readLine 33 = .ok (.aload_n 0, 1) ∧ decode cX10_readLine 34 = .ok (.getfield 228, 3) ∧ decode cX10_readLine 37 = .ok (.iastore, 1) ∧ decode cX10_readLine 38 = .ok (.aload_n 0, 1) ∧ decode cX10_readLine 39 = .ok (.getfield 231, 3) ∧ decode cX10_readLine 42 = .ok (.ifCond .ne 13, 3) ∧ decode cX10_readLine 45 = .ok (.aload_n 0, 1) ∧ decode cX10_readLine 46 = .ok (.invokevirtual 255, 3) ∧ decode cX10_readLine 49 = .ok (.iconst (-1), 1) ∧ True := dqC_ok (c := cX10_readLine) [(0, 1, some (.aload_n 0)), (1, 3, some (.getfield 205)), (4, 1, some (.istore_n 2)), (5, 1, some (.aload_n 0)), (6, 3, some (.getfield 62)), (9, 1, some (.iload_n 1)), (10, 1, some (.iload_n 2)), (11, 1, some (.iastore)), (12, 1, some (.aload_n 0)), (13, 3, some (.invokevirtual 242)), (16, 1, some (.aload_n 0)), (17, 1, some (.iload_n 1)), (18, 1, some (.iload_n 2)), (19, 3, some (.invokevirtual 279)), (22, 1, some (.iconst (-1))), (23, 3, some (.if_icmp .ne 5)), (26, 1, some (.iconst (-1))), (27, 1, some (.ireturn)), (28, 1, some (.aload_n 0)), (29, 3, some (.getfield 74)), (32, 1, some (.iload_n 1)), (33, 1, some (.aload_n 0)), (34, 3, some (.getfield 228)), (37, 1, some (.iastore)), (38, 1, some (.aload_n 0)), (39, 3, some (.getfield 231)), (42, 3, some (.ifCond .ne 13)), (45, 1, some (.aload_n 0)), (46, 3, some (.invokevirtual 255)), (49, 1, some (.iconst (-1)))] _ 0 rfl (by decide +kernel)
theorem dX10_readLine_0 : decode cX10_readLine 0 = .ok (.aload_n 0, 1) := dq_g330.1
theorem dX10_readLine_1 : decode cX10_readLine 1 = .ok (.getfield 205, 3) := dq_g330.2.1
theorem dX10_readLine_4 : decode cX10_readLine 4 = .ok (.istore_n 2, 1) := dq_g330.2.2.1
theorem dX10_readLine_5 : decode cX10_readLine 5 = .ok (.aload_n 0, 1) := dq_g330.2.2.2.1
theorem dX10_readLine_6 : decode cX10_readLine 6 = .ok (.getfield 62, 3) := dq_g330.2.2.2.2.1
theorem dX10_readLine_9 : decode cX10_readLine 9 = .ok (.iload_n 1, 1) := dq_g330.2.2.2.2.2.1
theorem dX10_readLine_10 : decode cX10_readLine 10 = .ok (.iload_n 2, 1) := dq_g330.2.2.2.2.2.2.1
theorem dX10_readLine_11 : decode cX10_readLine 11 = .ok (.iastore, 1) := dq_g330.2.2.2.2.2.2.2.1
theorem dX10_readLine_12 : decode cX10_readLine 12 = .ok (.aload_n 0, 1) := dq_g330.2.2.2.2.2.2.2.2.1
theorem dX10_readLine_13 : decode cX10_readLine 13 = .ok (.invokevirtual 242, 3) := dq_g330.2.2.2.2.2.2.2.2.2.1
theorem dX10_readLine_16 : decode cX10_readLine 16 = .ok (.aload_n 0, 1) := dq_g330.2.2.2.2.2.2.2.2.2.2.1
theorem dX10_readLine_17 : decode cX10_readLine 17 = .ok (.iload_n 1, 1) := dq_g330.2.2.2.2.2.2.2.2.2.2.2.1
theorem dX10_readLine_18 : decode cX10_readLine 18 = .ok (.iload_n 2, 1) := dq_g330.2.2.2.2.2.2.2.2.2.2.2.2.1
theorem dX10_readLine_19 : decode cX10_readLine 19 = .ok (.invokevirtual 279, 3) := dq_g330.2.2.2.2.2.2.2.2.2.2.2.2.2.1
theorem dX10_readLine_22 : decode cX10_readLine 22 = .ok (.iconst (-1), 1) := dq_g330.2.2.2.2.2.2.2.2.2.2.2.2.2.2.1
theorem dX10_readLine_23 : decode cX10_readLine 23 = .ok (.if_icmp .ne 5, 3) := dq_g330.2.2.2.2.2.2.2.2.2.2.2.2.2.2.2.1
theorem dX10_readLine_26 : decode cX10_readLine 26 = .ok (.iconst (-1), 1) := dq_g330.2.2.2.2.2.2.2.2.2.2.2.2.2.2.2.2.1
theorem dX10_readLine_27 : decode cX10_readLine 27 = .ok (.ireturn, 1) := dq_g330.2.2.2.2.2.2.2.2.2.2.2.2.2.2.2.2.2.1
theorem dX10_readLine_28 : decode cX10_readLine 28 = .ok (.aload_n 0, 1) := dq_g330.2.2.2.2.2.2.2.2.2.2.2.2.2.2.2.2.2.2.1
theorem dX10_readLine_29 : decode cX10_readLine 29 = .ok (.getfield 74, 3) := dq_g330.2.2.2.2.2.2.2.2.2.2.2.2.2.2.2.2.2.2.2.1
theorem dX10_readLine_32 : decode cX10_readLine 32 = .ok (.iload_n 1, 1) := dq_g330.2.2.2.2.2.2.2.2.2.2.2.2.2.2.2.2.2.2.2.2.1
theorem dX10_readLine_33 : decode cX10_readLine 33 = .ok (.aload_n 0, 1) := dq_g330.2.2.2.2.2.2.2.2.2.2.2.2.2.2.2.2.2.2.2.2.2.1
theorem dX10_readLine_34 : decode cX10_readLine 34 = .ok (.getfield 228, 3) := dq_g330.2.2.2.2.2.2.2.2.2.2.2.2.2.2.2.2.2.2.2.2.2.2.1
theorem dX10_readLine_37 : decode cX10_readLine 37 = .ok (.iastore, 1) := dq_g330.2.2.2.2.2.2.2.2.2.2.2.2.2.2.2.2.2.2.2.2.2.2.2.1
theorem dX10_readLine_38 : decode cX10_readLine 38 = .ok (.aload_n 0, 1) := dq_g330.2.2.2.2.2.2.2.2.2.2.2.2.2.2.2.2.2.2.2.2.2.2.2.2.1
theorem dX10_readLine_39 : decode cX10_readLine 39 = .ok (.getfield 231, 3) := dq_g330.2.2.2.2.2.2.2.2.2.2.2.2.2.2.2.2.2.2.2.2.2.2.2.2.2.1
theorem dX10_readLine_42 : decode cX10_readLine 42 = .ok (.ifCond .ne 13, 3) := dq_g330.2.2.2.2.2.2.2.2.2.2.2.2.2.2.2.2.2.2.2.2.2.2.2.2.2.2.1
theorem dX10_readLine_45 : decode cX10_readLine 45 = .ok (.aload_n 0, 1) := dq_g330.2.2.2.2.2.2.2.2.2.2.2.2.2.2.2.2.2.2.2.2.2.2.2.2.2.2.2.1
theorem dX10_readLine_46 : decode cX10_readLine 46 = .ok (.invokevirtual 255, 3) := dq_g330.2.2.2.2.2.2.2.2.2.2.2.2.2.2.2.2.2.2.2.2.2.2.2.2.2.2.2.2.1
theorem dX10_readLine_49 : decode cX10_readLine 49 = .ok (.iconst (-1), 1) := dq_g330.2.2.2.2.2.2.2.2.2.2.2.2.2.2.2.2.2.2.2.2.2.2.2.2.2.2.2.2.2.1
theorem dq_g331 : decode cX10_readLine 50 = .ok (.if_icmp .ne 5, 3) ∧ decode cX10_readLine 53 = .ok (.iconst (-1), 1) ∧ decode cX10_readLine 54 = .ok (.ireturn, 1) ∧ decode cX10_readLine 55 = .ok (.aload_n 0, 1) ∧ decode cX10_readLine 56 = .ok (.getfield 77, 3) ∧ decode cX10_readLine 59 = .ok (.iload_n 1, 1) ∧ decode cX10_readLine 60 = .ok (.aload_n 0, 1) ∧ decode cX10_readLine 61 = .ok (.getfield 228, 3) ∧ decode cX10_readLine 64 = .ok (.iastore, 1) ∧ decode cX10_readLine 65 = .ok (.aload_n 0, 1) ∧ decode cX10_readLine 66 = .ok (.bipush 6, 2) ∧ decode cX10_readLine 68 = .ok (.invokevirtual 264, 3) ∧ decode cX10_readLine 71 = .ok (.ifCond .eq 17, 3) ∧ decode cX10_readLine 74 = .ok (.aload_n 0, 1) ∧ decode cX10_readLine 75 = .ok (.invokevirtual 242, 3) ∧ decode cX10_readLine 78 = .ok (.aload_n 0, 1) ∧ decode cX10_readLine 79 = .ok (.invokevirtual 282, 3) ∧ decode cX10_readLine 82 = .ok (.iconst (-1), 1) ∧ decode cX10_readLine 83 = .ok (.if_icmp .ne 5, 3) ∧ decode cX10_readLine 86 = .ok (.iconst (-1), 1) ∧ decode cX10_readLine 87 = .ok (.ireturn, 1) ∧ decode cX10_readLine 88 = .ok (.aload_n 0, 1) ∧ decode cX10_readLine 89 = .ok (.getfield 80, 3) ∧ decode cX10_readLine 92 = .ok (.iload_n 1, 1) ∧ decode cX10_readLine 93 = .ok (.aload_n 0, 1) ∧ decode cX10_readLine 94 = .ok (.getfield 228, 3) ∧ decode cX10_readLine 97 = .ok (.iastore, 1) ∧ decode cX10_readLine 98 = .ok (.aload_n 0, 1) ∧ decode cX10_readLine 99 = .ok (.bipush 59, 2) ∧ decode cX10_readLine 101 = .ok (.invokevirtual 249, 3) ∧ True := dqC_ok (c := cX10_readLine) [(50, 3, some (.if_icmp .ne 5)), (53, 1, some (.iconst (-1))), (54, 1, some (.ireturn)), (55, 1, some (.aload_n 0)), (56, 3, some (.getfield 77)), (59, 1, some (.iload_n 1)), (60, 1, some (.aload_n 0)), (61, 3, some (.getfield 228)), (64, 1, some (.iastore)), (65, 1, some (.aload_n 0)), (66, 2, some (.bipush 6)), (68, 3, some (.invokevirtual 264)), (71, 3, some (.ifCond .eq 17)), (74, 1, some (.aload_n 0)), (75, 3, some (.invokevirtual 242)), (78, 1, some (.aload_n 0)), (79, 3, some (.invokevirtual 282)), (82, 1, some (.iconst (-1))), (83, 3, some (.if_icmp .ne 5)), (86, 1, some (.iconst (-1))), (87, 1, some (.ireturn)), (88, 1, some (.aload_n 0)), (89, 3, some (.getfield 80)), (92, 1, some (.iload_n 1)), (93, 1, some (.aload_n 0)), (94, 3, some (.getfield 228)), (97, 1, some (.iastore)), (98, 1, some (.aload_n 0)), (99, 2, some (.bipush 59)), (101, 3, some (.invokevirtual 249))] _ 50 rfl (by decide +kernel)
theorem dX10_readLine_50 : decode cX10_readLine 50 = .ok (.if_icmp .ne 5, 3) := dq_g331.1
theorem dX10_readLine_53 : decode cX10_readLine 53 = .ok (.iconst (-1), 1) := dq_g331.2.1
theorem dX10_readLine_54 : decode cX10_readLine 54 = .ok (.ireturn, 1) := dq_g331.2.2.1
theorem dX10_readLine_55 : decode cX10_readLine 55 = .ok (.aload_n 0, 1) := dq_g331.2.2.2.1
theorem dX10_readLine_56 : decode cX10_readLine 56 = .ok (.getfield 77, 3) := dq_g331.2.2.2.2.1
theorem dX10_readLine_59 : decode cX10_readLine 59 = .ok (.iload_n 1, 1) := dq_g331.2.2.2.2.2.1
theorem dX10_readLine_60 : decode cX10_readLine 60 = .ok (.aload_n 0, 1) := dq_g331.2.2.2.2.2.2.1
theorem dX10_readLine_61 : decode cX10_readLine 61 = .ok (.getfield 228, 3) := dq_g331.2.2.2.2.2.2.2.1
theorem dX10_readLine_64 : decode cX10_readLine 64 = .ok (.iastore, 1) := dq_g331.2.2.2.2.2.2.2.2.1
theorem dX10_readLine_65 : decode cX10_readLine 65 = .ok (.aload_n 0, 1) := dq_g331.2.2.2.2.2.2.2.2.2.1
theorem dX10_readLine_66 : decode cX10_readLine 66 = .ok (.bipush 6, 2) := dq_g331.2.2.2.2.2.2.2.2.2.2.1
theorem dX10_readLine_68 : decode cX10_readLine 68 = .ok (.invokevirtual 264, 3) := dq_g331.2.2.2.2.2.2.2.2.2.2.2.1
theorem dX10_readLine_71 : decode cX10_readLine 71 = .ok (.ifCond .eq 17, 3) := dq_g331.2.2.2.2.2.2.2.2.2.2.2.2.1
theorem dX10_readLine_74 : decode cX10_readLine 74 = .ok (.aload_n 0, 1) := dq_g331.2.2.2.2.2.2.2.2.2.2.2.2.2.1
theorem dX10_readLine_75 : decode cX10_readLine 75 = .ok (.invokevirtual 242, 3) := dq_g331.2.2.2.2.2.2.2.2.2.2.2.2.2.2.1
theorem dX10_readLine_78 : decode cX10_readLine 78 = .ok (.aload_n 0, 1) := dq_g331.2.2.2.2.2.2.2.2.2.2.2.2.2.2.2.1
theorem dX10_readLine_79 : decode cX10_readLine 79 = .ok (.invokevirtual 282, 3) := dq_g331.2.2.2.2.2.2.2.2.2.2.2.2.2.2.2.2.1
theorem dX10_readLine_82 : decode cX10_readLine 82 = .ok (.iconst (-1), 1) := dq_g331.2.2.2.2.2.2.2.2.2.2.2.2.2.2.2.2.2.1
theorem dX10_readLine_83 : decode cX10_readLine 83 = .ok (.if_icmp .ne 5, 3) := dq_g331.2.2.2.2.2.2.2.2.2.2.2.2.2.2.2.2.2.2.1
theorem dX10_readLine_86 : decode cX10_readLine 86 = .ok (.iconst (-1), 1) := dq_g331.2.2.2.2.2.2.2.2.2.2.2.2.2.2.2.2.2.2.2.1
theorem dX10_readLine_87 : decode cX10_readLine 87 = .ok (.ireturn, 1) := dq_g331.2.2.2.2.2.2.2.2.2.2.2.2.2.2.2.2.2.2.2.2.1
theorem dX10_readLine_88 : decode cX10_readLine 88 = .ok (.aload_n 0, 1) := dq_g331.2.2.2.2.2.2.2.2.2.2.2.2.2.2.2.2.2.2.2.2.2.1
theorem dX10_readLine_89 : decode cX10_readLine 89 = .ok (.getfield 80, 3) := dq_g331.2.2.2.2.2.2.2.2.2.2.2.2.2.2.2.2.2.2.2.2.2.2.1
theorem dX10_readLine_92 : decode cX10_readLine 92 = .ok (.iload_n 1, 1) := dq_g331.2.2.2.2.2.2.2.2.2.2.2.2.2.2.2.2.2.2.2.2.2.2.2.1
theorem dX10_readLine_93 : decode cX10_readLine 93 = .ok (.aload_n 0, 1) := dq_g331.2.2.2.2.2.2.2.2.2.2.2.2.2.2.2.2.2.2.2.2.2.2.2.2.1
theorem dX10_readLine_94 : decode cX10_readLine 94 = .ok (.getfield 228, 3) := dq_g331.2.2.2.2.2.2.2.2.2.2.2.2.2.2.2.2.2.2.2.2.2.2.2.2.2.1
theorem dX10_readLine_97 : decode cX10_readLine 97 = .ok (.iastore, 1) := dq_g331.2.2.2.2.2.2.2.2.2.2.2.2.2.2.2.2.2.2.2.2.2.2.2.2.2.2.1
theorem dX10_readLine_98 : decode cX10_readLine 98 = .ok (.aload_n 0, 1) := dq_g331.2.2.2.2.2.2.2.2.2.2.2.2.2.2.2.2.2.2.2.2.2.2.2.2.2.2.2.1
theorem dX10_readLine_99 : decode cX10_readLine 99 = .ok (.bipush 59, 2) := dq_g331.2.2.2.2.2.2.2.2.2.2.2.2.2.2.2.2.2.2.2.2.2.2.2.2.2.2.2.2.1
theorem dX10_readLine_101 : decode cX10_readLine 101 = .ok (.invokevirtual 249, 3) := dq_g331.2.2.2.2.2.2.2.2.2.2.2.2.2.2.2.2.2.2.2.2.2.2.2.2.2.2.2.2.2.1
theorem dq_g332 : decode cX10_readLine 104 = .ok (.ifCond .ne 9, 3) ∧ decode cX10_readLine 107 = .ok (.aload_n 0, 1) ∧ decode cX10_readLine 108 = .ok (.iconst 1, 1) ∧ decode cX10_readLine 109 = .ok (.invokevirtual 235, 3) ∧ decode cX10_readLine 112 = .ok (.ireturn, 1) ∧ decode cX10_readLine 113 = .ok (.aload_n 0, 1) ∧ decode cX10_readLine 114 = .ok (.invokevirtual 242, 3) ∧ decode cX10_readLine 117 = .ok (.iconst 0, 1) ∧ decode cX10_readLine 118 = .ok (.ireturn, 1) ∧ True := dqC_ok (c := cX10_readLine) [(104, 3, some (.ifCond .ne 9)), (107, 1, some (.aload_n 0)), (108, 1, some (.iconst 1)), (109, 3, some (.invokevirtual 235)), (112, 1, some (.ireturn)), (113, 1, some (.aload_n 0)), (114, 3, some (.invokevirtual 242)), (117, 1, some (.iconst 0)), (118, 1, some (.ireturn))] _ 104 rfl (by decide +kernel)
theorem dX10_readLine_104 : decode cX10_readLine 104 = .ok (.ifCond .ne 9, 3) := dq_g332.1
theorem dX10_readLine_107 : decode cX10_readLine 107 = .ok (.aload_n 0, 1) := dq_g332.2.1
theorem dX10_readLine_108 : decode cX10_readLine 108 = .ok (.iconst 1, 1) := dq_g332.2.2.1
theorem dX10_readLine_109 : decode cX10_readLine 109 = .ok (.invokevirtual 235, 3) := dq_g332.2.2.2.1
theorem dX10_readLine_112 : decode cX10_readLine 112 = .ok (.ireturn, 1) := dq_g332.2.2.2.2.1
theorem dX10_readLine_113 : decode cX10_readLine 113 = .ok (.aload_n 0, 1) := dq_g332.2.2.2.2.2.1
theorem dX10_readLine_114 : decode cX10_readLine 114 = .ok (.invokevirtual 242, 3) := dq_g332.2.2.2.2.2.2.1
theorem dX10_readLine_117 : decode cX10_readLine 117 = .ok (.iconst 0, 1) := dq_g332.2.2.2.2.2.2.2.1
theorem dX10_readLine_118 : decode cX10_readLine 118 = .ok (.ireturn, 1) := dq_g332.2.2.2.2.2.2.2.2.1
theorem dq_g333 : decode cX10_readText 0 = .ok (.iconst 0, 1) ∧ decode cX10_readText 1 = .ok (.istore_n 1, 1) ∧ decode cX10_readText 2 = .ok (.aload_n 0, 1) ∧ decode cX10_readText 3 = .ok (.invokevirtual 285, 3) ∧ decode cX10_readText 6 = .ok (.ifCond .eq 36, 3) ∧ decode cX10_readText 9 = .ok (.iload_n 1, 1) ∧ decode cX10_readText 10 = .ok (.bipush 16, 2) ∧ decode cX10_readText 12 = .ok (.if_icmp .ne 9, 3) ∧ decode cX10_readText 15 = .ok (.aload_n 0, 1) ∧ decode cX10_readText 16 = .ok (.iconst 3, 1) ∧ decode cX10_readText 17 = .ok (.invokevirtual 235, 3) ∧ decode cX10_readText 20 = .ok (.ireturn, 1) ∧ decode cX10_readText 21 = .ok (.aload_n 0, 1) ∧ decode cX10_readText 22 = .ok (.bipush 96, 2) ∧ decode cX10_readText 24 = .ok (.iload_n 1, 1) ∧ decode cX10_readText 25 = .ok (.iadd, 1) ∧ decode cX10_readText 26 = .ok (.invokevirtual 289, 3) ∧ decode cX10_readText 29 = .ok (.iconst (-1), 1) ∧ decode cX10_readText 30 = .ok (.if_icmp .ne 5, 3) ∧ decode cX10_readText 33 = .ok (.iconst (-1), 1) ∧ decode cX10_readText 34 = .ok (.ireturn, 1) ∧ decode cX10_readText 35 = .ok (.iload_n 1, 1) ∧ decode cX10_readText 36 = .ok (.iconst 1, 1) ∧ decode cX10_readText 37 = .ok (.iadd, 1) ∧ decode cX10_readText 38 = .ok (.istore_n 1, 1) ∧ decode cX10_readText 39 = .ok (.goto (-37), 3) ∧ decode cX10_readText 42 = .ok (.aload_n 0, 1) ∧ decode cX10_readText 43 = .ok (.getfield 202, 3) ∧ decode cX10_readText 46 = .ok (.ifCond .ne 7, 3) ∧ decode cX10_readText 49 = .ok (.iload_n 1, 1) ∧ True := dqC_ok (c := cX10_readText) [(0, 1, some (.iconst 0)), (1, 1, some (.istore_n 1)), (2, 1, some (.aload_n 0)), (3, 3, some (.invokevirtual 285)), (6, 3, some (.ifCond .eq 36)), (9, 1, some (.iload_n 1)), (10, 2, some (.bipush 16)), (12, 3, some (.if_icmp .ne 9)), (15, 1, some (.aload_n 0)), (16, 1, some (.iconst 3)), (17, 3, some (.invokevirtual 235)), (20, 1, some (.ireturn)), (21, 1, some (.aload_n 0)), (22, 2, some (.bipush 96)), (24, 1, some (.iload_n 1)), (25, 1, some (.iadd)), (26, 3, some (.invokevirtual 289)), (29, 1, some (.iconst (-1))), (30, 3, some (.if_icmp .ne 5)), (33, 1, some (.iconst (-1))), (34, 1, some (.ireturn)), (35, 1, some (.iload_n 1)), (36, 1, some (.iconst 1)), (37, 1, some (.iadd)), (38, 1, some (.istore_n 1)), (39, 3, some (.goto (-37))), (42, 1, some (.aload_n 0)), (43, 3, some (.getfield 202)), (46, 3, some (.ifCond .ne 7)), (49, 1, some (.iload_n 1))] _ 0 rfl (by decide +kernel)
theorem dX10_readText_0 : decode cX10_readText 0 = .ok (.iconst 0, 1) := dq_g333.1
theorem dX10_readText_1 : decode cX10_readText 1 = .ok (.istore_n 1, 1) := dq_g333.2.1
theorem dX10_readText_2 : decode cX10_readText 2 = .ok (.aload_n 0, 1) := dq_g333.2.2.1
theorem dX10_readText_3 : decode cX10_readText 3 = .ok (.invokevirtual 285, 3) := dq_g333.2.2.2.1
theorem dX10_readText_6 : decode cX10_readText 6 = .ok (.ifCond .eq 36, 3) := dq_g333.2.2.2.2.1
theorem dX10_readText_9 : decode cX10_readText 9 = .ok (.iload_n 1, 1) := dq_g333.2.2.2.2.2.1
theorem dX10_readText_10 : decode cX10_readText 10 = .ok (.bipush 16, 2) := dq_g333.2.2.2.2.2.2.1
theorem dX10_readText_12 : decode cX10_readText 12 = .ok (.if_icmp .ne 9, 3) := dq_g333.2.2.2.2.2.2.2.1
theorem dX10_readText_15 : decode cX10_readText 15 = .ok (.aload_n 0, 1) := dq_g333.2.2.2.2.2.2.2.2.1
theorem dX10_readText_16 : decode cX10_readText 16 = .ok (.iconst 3, 1) := dq_g333.2.2.2.2.2.2.2.2.2.1
theorem dX10_readText_17 : decode cX10_readText 17 = .ok (.invokevirtual 235, 3) := dq_g333.2.2.2.2.2.2.2.2.2.2.1
theorem dX10_readText_20 : decode cX10_readText 20 = .ok (.ireturn, 1) := dq_g333.2.2.2.2.2.2.2.2.2.2.2.1
theorem dX10_readText_21 : decode cX10_readText 21 = .ok (.aload_n 0, 1) := dq_g333.2.2.2.2.2.2.2.2.2.2.2.2.1
theorem dX10_readText_22 : decode cX10_readText 22 = .ok (.bipush 96, 2) := dq_g333.2.2.2.2.2.2.2.2.2.2.2.2.2.1
theorem dX10_readText_24 : decode cX10_readText 24 = .ok (.iload_n 1, 1) := dq_g333.2.2.2.2.2.2.2.2.2.2.2.2.2.2.1
theorem dX10_readText_25 : decode cX10_readText 25 = .ok (.iadd, 1) := dq_g333.2.2.2.2.2.2.2.2.2.2.2.2.2.2.2.1
theorem dX10_readText_26 : decode cX10_readText 26 = .ok (.invokevirtual 289, 3) := dq_g333.2.2.2.2.2.2.2.2.2.2.2.2.2.2.2.2.1
theorem dX10_readText_29 : decode cX10_readText 29 = .ok (.iconst (-1), 1) := dq_g333.2.2.2.2.2.2.2.2.2.2.2.2.2.2.2.2.2.1
theorem dX10_readText_30 : decode cX10_readText 30 = .ok (.if_icmp .ne 5, 3) := dq_g333.2.2.2.2.2.2.2.2.2.2.2.2.2.2.2.2.2.2.1
theorem dX10_readText_33 : decode cX10_readText 33 = .ok (.iconst (-1), 1) := dq_g333.2.2.2.2.2.2.2.2.2.2.2.2.2.2.2.2.2.2.2.1
theorem dX10_readText_34 : decode cX10_readText 34 = .ok (.ireturn, 1) := dq_g333.2.2.2.2.2.2.2.2.2.2.2.2.2.2.2.2.2.2.2.2.1
theorem dX10_readText_35 : decode cX10_readText 35 = .ok (.iload_n 1, 1) := dq_g333.2.2.2.2.2.2.2.2.2.2.2.2.2.2.2.2.2.2.2.2.2.1
theorem dX10_readText_36 : decode cX10_readText 36 = .ok (.iconst 1, 1) := dq_g333.2.2.2.2.2.2.2.2.2.2.2.2.2.2.2.2.2.2.2.2.2.2.1
theorem dX10_readText_37 : decode cX10_readText 37 = .ok (.iadd, 1) := dq_g333.2.2.2.2.2.2.2.2.2.2.2.2.2.2.2.2.2.2.2.2.2.2.2.1
theorem dX10_readText_38 : decode cX10_readText 38 = .ok (.istore_n 1, 1) := dq_g333.2.2.2.2.2.2.2.2.2.2.2.2.2.2.2.2.2.2.2.2.2.2.2.2.1
theorem dX10_readText_39 : decode cX10_readText 39 = .ok (.goto (-37), 3) := dq_g333.2.2.2.2.2.2.2.2.2.2.2.2.2.2.2.2.2.2.2.2.2.2.2.2.2.1
theorem dX10_readText_42 : decode cX10_readText 42 = .ok (.aload_n 0, 1) := dq_g333.2.2.2.2.2.2.2.2.2.2.2.2.2.2.2.2.2.2.2.2.2.2.2.2.2.2.1
theorem dX10_readText_43 : decode cX10_readText 43 = .ok (.getfield 202, 3) := dq_g333.2.2.2.2.2.2.2.2.2.2.2.2.2.2.2.2.2.2.2.2.2.2.2.2.2.2.2.1
theorem dX10_readText_46 : decode cX10_readText 46 = .ok (.ifCond .ne 7, 3) := dq_g333.2.2.2.2.2.2.2.2.2.2.2.2.2.2.2.2.2.2.2.2.2.2.2.2.2.2.2.2.1
theorem dX10_readText_49 : decode cX10_readText 49 = .ok (.iload_n 1, 1) := dq_g333.2.2.2.2.2.2.2.2.2.2.2.2.2.2.2.2.2.2.2.2.2.2.2.2.2.2.2.2.2.1
theorem dq_g334 : decode cX10_readText 50 = .ok (.goto 8, 3) ∧ decode cX10_readText 53 = .ok (.aload_n 0, 1) ∧ decode cX10_readText 54 = .ok (.iconst 1, 1) ∧ decode cX10_readText 55 = .ok (.invokevirtual 235, 3) ∧ decode cX10_readText 58 = .ok (.ireturn, 1) ∧ True := dqC_ok (c := cX10_readText) [(50, 3, some (.goto 8)), (53, 1, some (.aload_n 0)), (54, 1, some (.iconst 1)), (55, 3, some (.invokevirtual 235)), (58, 1, some (.ireturn))] _ 50 rfl (by decide +kernel)
theorem dX10_readText_50 : decode cX10_readText 50 = .ok (.goto 8, 3) := dq_g334.1
theorem dX10_readText_53 : decode cX10_readText 53 = .ok (.aload_n 0, 1) := dq_g334.2.1
theorem dX10_readText_54 : decode cX10_readText 54 = .ok (.iconst 1, 1) := dq_g334.2.2.1
theorem dX10_readText_55 : decode cX10_readText 55 = .ok (.invokevirtual 235, 3) := dq_g334.2.2.2.1
theorem dX10_readText_58 : decode cX10_readText 58 = .ok (.ireturn, 1) := dq_g334.2.2.2.2.1
theorem dq_g335 : decode cX10_text 0 = .ok (.aload_n 0, 1) ∧ decode cX10_text 1 = .ok (.iconst 0, 1) ∧ decode cX10_text 2 = .ok (.putfield 167, 3) ∧ decode cX10_text 5 = .ok (.aload_n 0, 1) ∧ decode cX10_text 6 = .ok (.iconst 0, 1) ∧ decode cX10_text 7 = .ok (.putfield 292, 3) ∧ decode cX10_text 10 = .ok (.aload_n 0, 1) ∧ decode cX10_text 11 = .ok (.iconst (-1), 1) ∧ decode cX10_text 12 = .ok (.putfield 92, 3) ∧ decode cX10_text 15 = .ok (.iload_n 1, 1) ∧ decode cX10_text 16 = .ok (.ifCond .ne 13, 3) ∧ decode cX10_text 19 = .ok (.aload_n 0, 1) ∧ decode cX10_text 20 = .ok (.iload_n 2, 1) ∧ decode cX10_text 21 = .ok (.iconst 0, 1) ∧ decode cX10_text 22 = .ok (.iconst 1, 1) ∧ decode cX10_text 23 = .ok (.invokevirtual 177, 3) ∧ decode cX10_text 26 = .ok (.ifCond .ne 18, 3) ∧ decode cX10_text 29 = .ok (.iload_n 1, 1) ∧ decode cX10_text 30 = .ok (.iconst 1, 1) ∧ decode cX10_text 31 = .ok (.if_icmp .ne 17, 3) ∧ decode cX10_text 34 = .ok (.aload_n 0, 1) ∧ decode cX10_text 35 = .ok (.iload_n 2, 1) ∧ decode cX10_text 36 = .ok (.iconst 0, 1) ∧ decode cX10_text 37 = .ok (.iconst 3, 1) ∧ decode cX10_text 38 = .ok (.invokevirtual 177, 3) ∧ decode cX10_text 41 = .ok (.ifCond .eq 7, 3) ∧ decode cX10_text 44 = .ok (.iconst 1, 1) ∧ decode cX10_text 45 = .ok (.goto 4, 3) ∧ decode cX10_text 48 = .ok (.iconst 0, 1) ∧ decode cX10_text 49 = .ok (.istore_n 3, 1) ∧ True := dqC_ok (c := cX10_text) [(0, 1, some (.aload_n 0)), (1, 1, some (.iconst 0)), (2, 3, some (.putfield 167)), (5, 1, some (.aload_n 0)), (6, 1, some (.iconst 0)), (7, 3, some (.putfield 292)), (10, 1, some (.aload_n 0)), (11, 1, some (.iconst (-1))), (12, 3, some (.putfield 92)), (15, 1, some (.iload_n 1)), (16, 3, some (.ifCond .ne 13)), (19, 1, some (.aload_n 0)), (20, 1, some (.iload_n 2)), (21, 1, some (.iconst 0)), (22, 1, some (.iconst 1)), (23, 3, some (.invokevirtual 177)), (26, 3, some (.ifCond .ne 18)), (29, 1, some (.iload_n 1)), (30, 1, some (.iconst 1)), (31, 3, some (.if_icmp .ne 17)), (34, 1, some (.aload_n 0)), (35, 1, some (.iload_n 2)), (36, 1, some (.iconst 0)), (37, 1, some (.iconst 3)), (38, 3, some (.invokevirtual 177)), (41, 3, some (.ifCond .eq 7)), (44, 1, some (.iconst 1)), (45, 3, some (.goto 4)), (48, 1, some (.iconst 0)), (49, 1, some (.istore_n 3))] _ 0 rfl (by decide +kernel)
theorem dX10_text_0 : decode cX10_text 0 = .ok (.aload_n 0, 1) := dq_g335.1
theorem dX10_text_1 : decode cX10_text 1 = .ok (.iconst 0, 1) := dq_g335.2.1
theorem dX10_text_2 : decode cX10_text 2 = .ok (.putfield 167, 3) := dq_g335.2.2.1
theorem dX10_text_5 : decode cX10_text 5 = .ok (.aload_n 0, 1) := dq_g335.2.2.2.1
theorem dX10_text_6 : decode cX10_text 6 = .ok (.iconst 0, 1) := dq_g335.2.2.2.2.1
theorem dX10_text_7 : decode cX10_text 7 = .ok (.putfield 292, 3) := dq_g335.2.2.2.2.2.1
theorem dX10_text_10 : decode cX10_text 10 = .ok (.aload_n 0, 1) := dq_g335.2.2.2.2.2.2.1
theorem dX10_text_11 : decode cX10_text 11 = .ok (.iconst (-1), 1) := dq_g335.2.2.2.2.2.2.2.1
theorem dX10_text_12 : decode cX10_text 12 = .ok (.putfield 92, 3) := dq_g335.2.2.2.2.2.2.2.2.1
theorem dX10_text_15 : decode cX10_text 15 = .ok (.iload_n 1, 1) := dq_g335.2.2.2.2.2.2.2.2.2.1
theorem dX10_text_16 : decode cX10_text 16 = .ok (.ifCond .ne 13, 3) := dq_g335.2.2.2.2.2.2.2.2.2.2.1
theorem dX10_text_19 : decode cX10_text 19 = .ok (.aload_n 0, 1) := dq_g335.2.2.2.2.2.2.2.2.2.2.2.1
theorem dX10_text_20 : decode cX10_text 20 = .ok (.iload_n 2, 1) := dq_g335.2.2.2.2.2.2.2.2.2.2.2.2.1
theorem dX10_text_21 : decode cX10_text 21 = .ok (.iconst 0, 1) := dq_g335.2.2.2.2.2.2.2.2.2.2.2.2.2.1
theorem dX10_text_22 : decode cX10_text 22 = .ok (.iconst 1, 1) := dq_g335.2.2.2.2.2.2.2.2.2.2.2.2.2.2.1
theorem dX10_text_23 : decode cX10_text 23 = .ok (.invokevirtual 177, 3) := dq_g335.2.2.2.2.2.2.2.2.2.2.2.2.2.2.2.1
theorem dX10_text_26 : decode cX10_text 26 = .ok (.ifCond .ne 18, 3) := dq_g335.2.2.2.2.2.2.2.2.2.2.2.2.2.2.2.2.1
theorem dX10_text_29 : decode cX10_text 29 = .ok (.iload_n 1, 1) := dq_g335.2.2.2.2.2.2.2.2.2.2.2.2.2.2.2.2.2.1
theorem dX10_text_30 : decode cX10_text 30 = .ok (.iconst 1, 1) := dq_g335.2.2.2.2.2.2.2.2.2.2.2.2.2.2.2.2.2.2.1
theorem dX10_text_31 : decode cX10_text 31 = .ok (.if_icmp .ne 17, 3) := dq_g335.2.2.2.2.2.2.2.2.2.2.2.2.2.2.2.2.2.2.2.1
theorem dX10_text_34 : decode cX10_text 34 = .ok (.aload_n 0, 1) := dq_g335.2.2.2.2.2.2.2.2.2.2.2.2.2.2.2.2.2.2.2.2.1
theorem dX10_text_35 : decode cX10_text 35 = .ok (.iload_n 2, 1) := dq_g335.2.2.2.2.2.2.2.2.2.2.2.2.2.2.2.2.2.2.2.2.2.1
theorem dX10_text_36 : decode cX10_text 36 = .ok (.iconst 0, 1) := dq_g335.2.2.2.2.2.2.2.2.2.2.2.2.2.2.2.2.2.2.2.2.2.2.1
theorem dX10_text_37 : decode cX10_text 37 = .ok (.iconst 3, 1) := dq_g335.2.2.2.2.2.2.2.2.2.2.2.2.2.2.2.2.2.2.2.2.2.2.2.1
theorem dX10_text_38 : decode cX10_text 38 = .ok (.invokevirtual 177, 3) := dq_g335.2.2.2.2.2.2.2.2.2.2.2.2.2.2.2.2.2.2.2.2.2.2.2.2.1
theorem dX10_text_41 : decode cX10_text 41 = .ok (.ifCond .eq 7, 3) := dq_g335.2.2.2.2.2.2.2.2.2.2.2.2.2.2.2.2.2.2.2.2.2.2.2.2.2.1
theorem dX10_text_44 : decode cX10_text 44 = .ok (.iconst 1, 1) := dq_g335.2.2.2.2.2.2.2.2.2.2.2.2.2.2.2.2.2.2.2.2.2.2.2.2.2.2.1
theorem dX10_text_45 : decode cX10_text 45 = .ok (.goto 4, 3) := dq_g335.2.2.2.2.2.2.2.2.2.2.2.2.2.2.2.2.2.2.2.2.2.2.2.2.2.2.2.1
theorem dX10_text_48 : decode cX10_text 48 = .ok (.iconst 0, 1) := dq_g335.2.2.2.2.2.2.2.2.2.2.2.2.2.2.2.2.2.2.2.2.2.2.2.2.2.2.2.2.1
theorem dX10_text_49 : decode cX10_text 49 = .ok (.istore_n 3, 1) := dq_g335.2.2.2.2.2.2.2.2.2.2.2.2.2.2.2.2.2.2.2.2.2.2.2.2.2.2.2.2.2.1
theorem dq_g336 : decode cX10_text 50 = .ok (.aload_n 0, 1) ∧ decode cX10_text 51 = .ok (.iload_n 1, 1) ∧ decode cX10_text 52 = .ok (.iconst 1, 1) ∧ decode cX10_text 53 = .ok (.if_icmp .ne 7, 3) ∧ decode cX10_text 56 = .ok (.iconst 1, 1) ∧ decode cX10_text 57 = .ok (.goto 4, 3) ∧ decode cX10_text 60 = .ok (.iconst 0, 1) ∧ decode cX10_text 61 = .ok (.putfield 231, 3) ∧ decode cX10_text 64 = .ok (.aload_n 0, 1) ∧ decode cX10_text 65 = .ok (.iconst 0, 1) ∧ decode cX10_text 66 = .ok (.putfield 192, 3) ∧ decode cX10_text 69 = .ok (.aload_n 0, 1) ∧ decode cX10_text 70 = .ok (.iconst 0, 1) ∧ decode cX10_text 71 = .ok (.putfield 228, 3) ∧ decode cX10_text 74 = .ok (.aload_n 0, 1) ∧ decode cX10_text 75 = .ok (.iconst 0, 1) ∧ decode cX10_text 76 = .ok (.putfield 261, 3) ∧ decode cX10_text 79 = .ok (.aload_n 0, 1) ∧ decode cX10_text 80 = .ok (.invokevirtual 242, 3) ∧ decode cX10_text 83 = .ok (.iload_n 3, 1) ∧ decode cX10_text 84 = .ok (.ifCond .eq 10, 3) ∧ decode cX10_text 87 = .ok (.aload_n 0, 1) ∧ decode cX10_text 88 = .ok (.invokevirtual 295, 3) ∧ decode cX10_text 91 = .ok (.goto 4, 3) ∧ decode cX10_text 94 = .ok (.iconst (-1), 1) ∧ decode cX10_text 95 = .ok (.istore 4, 2) ∧ decode cX10_text 97 = .ok (.aload_n 0, 1) ∧ decode cX10_text 98 = .ok (.iconst 0, 1) ∧ decode cX10_text 99 = .ok (.putfield 185, 3) ∧ decode cX10_text 102 = .ok (.iload_n 3, 1) ∧ True := dqC_ok (c := cX10_text) [(50, 1, some (.aload_n 0)), (51, 1, some (.iload_n 1)), (52, 1, some (.iconst 1)), (53, 3, some (.if_icmp .ne 7)), (56, 1, some (.iconst 1)), (57, 3, some (.goto 4)), (60, 1, some (.iconst 0)), (61, 3, some (.putfield 231)), (64, 1, some (.aload_n 0)), (65, 1, some (.iconst 0)), (66, 3, some (.putfield 192)), (69, 1, some (.aload_n 0)), (70, 1, some (.iconst 0)), (71, 3, some (.putfield 228)), (74, 1, some (.aload_n 0)), (75, 1, some (.iconst 0)), (76, 3, some (.putfield 261)), (79, 1, some (.aload_n 0)), (80, 3, some (.invokevirtual 242)), (83, 1, some (.iload_n 3)), (84, 3, some (.ifCond .eq 10)), (87, 1, some (.aload_n 0)), (88, 3, some (.invokevirtual 295)), (91, 3, some (.goto 4)), (94, 1, some (.iconst (-1))), (95, 2, some (.istore 4)), (97, 1, some (.aload_n 0)), (98, 1, some (.iconst 0)), (99, 3, some (.putfield 185)), (102, 1, some (.iload_n 3))] _ 50 rfl (by decide +kernel)
theorem dX10_text_50 : decode cX10_text 50 = .ok (.aload_n 0, 1) := dq_g336.1
theorem dX10_text_51 : decode cX10_text 51 = .ok (.iload_n 1, 1) := dq_g336.2.1
theorem dX10_text_52 : decode cX10_text 52 = .ok (.iconst 1, 1) := dq_g336.2.2.1
theorem dX10_text_53 : decode cX10_text 53 = .ok (.if_icmp .ne 7, 3) := dq_g336.2.2.2.1
theorem dX10_text_56 : decode cX10_text 56 = .ok (.iconst 1, 1) := dq_g336.2.2.2.2.1
theorem dX10_text_57 : decode cX10_text 57 = .ok (.goto 4, 3) := dq_g336.2.2.2.2.2.1
theorem dX10_text_60 : decode cX10_text 60 = .ok (.iconst 0, 1) := dq_g336.2.2.2.2.2.2.1
theorem dX10_text_61 : decode cX10_text 61 = .ok (.putfield 231, 3) := dq_g336.2.2.2.2.2.2.2.1
theorem dX10_text_64 : decode cX10_text 64 = .ok (.aload_n 0, 1) := dq_g336.2.2.2.2.2.2.2.2.1
theorem dX10_text_65 : decode cX10_text 65 = .ok (.iconst 0, 1) := dq_g336.2.2.2.2.2.2.2.2.2.1
theorem dX10_text_66 : decode cX10_text 66 = .ok (.putfield 192, 3) := dq_g336.2.2.2.2.2.2.2.2.2.2.1
theorem dX10_text_69 : decode cX10_text 69 = .ok (.aload_n 0, 1) := dq_g336.2.2.2.2.2.2.2.2.2.2.2.1
theorem dX10_text_70 : decode cX10_text 70 = .ok (.iconst 0, 1) := dq_g336.2.2.2.2.2.2.2.2.2.2.2.2.1
theorem dX10_text_71 : decode cX10_text 71 = .ok (.putfield 228, 3) := dq_g336.2.2.2.2.2.2.2.2.2.2.2.2.2.1
theorem dX10_text_74 : decode cX10_text 74 = .ok (.aload_n 0, 1) := dq_g336.2.2.2.2.2.2.2.2.2.2.2.2.2.2.1
theorem dX10_text_75 : decode cX10_text 75 = .ok (.iconst 0, 1) := dq_g336.2.2.2.2.2.2.2.2.2.2.2.2.2.2.2.1
theorem dX10_text_76 : decode cX10_text 76 = .ok (.putfield 261, 3) := dq_g336.2.2.2.2.2.2.2.2.2.2.2.2.2.2.2.2.1
theorem dX10_text_79 : decode cX10_text 79 = .ok (.aload_n 0, 1) := dq_g336.2.2.2.2.2.2.2.2.2.2.2.2.2.2.2.2.2.1
theorem dX10_text_80 : decode cX10_text 80 = .ok (.invokevirtual 242, 3) := dq_g336.2.2.2.2.2.2.2.2.2.2.2.2.2.2.2.2.2.2.1
theorem dX10_text_83 : decode cX10_text 83 = .ok (.iload_n 3, 1) := dq_g336.2.2.2.2.2.2.2.2.2.2.2.2.2.2.2.2.2.2.2.1
theorem dX10_text_84 : decode cX10_text 84 = .ok (.ifCond .eq 10, 3) := dq_g336.2.2.2.2.2.2.2.2.2.2.2.2.2.2.2.2.2.2.2.2.1
theorem dX10_text_87 : decode cX10_text 87 = .ok (.aload_n 0, 1) := dq_g336.2.2.2.2.2.2.2.2.2.2.2.2.2.2.2.2.2.2.2.2.2.1
theorem dX10_text_88 : decode cX10_text 88 = .ok (.invokevirtual 295, 3) := dq_g336.2.2.2.2.2.2.2.2.2.2.2.2.2.2.2.2.2.2.2.2.2.2.1
theorem dX10_text_91 : decode cX10_text 91 = .ok (.goto 4, 3) := dq_g336.2.2.2.2.2.2.2.2.2.2.2.2.2.2.2.2.2.2.2.2.2.2.2.1
theorem dX10_text_94 : decode cX10_text 94 = .ok (.iconst (-1), 1) := dq_g336.2.2.2.2.2.2.2.2.2.2.2.2.2.2.2.2.2.2.2.2.2.2.2.2.1
theorem dX10_text_95 : decode cX10_text 95 = .ok (.istore 4, 2) := dq_g336.2.2.2.2.2.2.2.2.2.2.2.2.2.2.2.2.2.2.2.2.2.2.2.2.2.1
theorem dX10_text_97 : decode cX10_text 97 = .ok (.aload_n 0, 1) := dq_g336.2.2.2.2.2.2.2.2.2.2.2.2.2.2.2.2.2.2.2.2.2.2.2.2.2.2.1
theorem dX10_text_98 : decode cX10_text 98 = .ok (.iconst 0, 1) := dq_g336.2.2.2.2.2.2.2.2.2.2.2.2.2.2.2.2.2.2.2.2.2.2.2.2.2.2.2.1
theorem dX10_text_99 : decode cX10_text 99 = .ok (.putfield 185, 3) := dq_g336.2.2.2.2.2.2.2.2.2.2.2.2.2.2.2.2.2.2.2.2.2.2.2.2.2.2.2.2.1
theorem dX10_text_102 : decode cX10_text 102 = .ok (.iload_n 3, 1) := dq_g336.2.2.2.2.2.2.2.2.2.2.2.2.2.2.2.2.2.2.2.2.2.2.2.2.2.2.2.2.2.1
theorem dq_g337 : decode cX10_text 103 = .ok (.ifCond .eq 25, 3) ∧ decode cX10_text 106 = .ok (.iload 4, 2) ∧ decode cX10_text 108 = .ok (.iconst (-1), 1) ∧ decode cX10_text 109 = .ok (.if_icmp .ne 19, 3) ∧ decode cX10_text 112 = .ok (.aload_n 0, 1) ∧ decode cX10_text 113 = .ok (.aload_n 0, 1) ∧ decode cX10_text 114 = .ok (.getfield 222, 3) ∧ decode cX10_text 117 = .ok (.putfield 292, 3) ∧ decode cX10_text 120 = .ok (.aload_n 0, 1) ∧ decode cX10_text 121 = .ok (.aload_n 0, 1) ∧ decode cX10_text 122 = .ok (.getfield 225, 3) ∧ decode cX10_text 125 = .ok (.putfield 92, 3) ∧ decode cX10_text 128 = .ok (.iload 4, 2) ∧ decode cX10_text 130 = .ok (.iconst (-1), 1) ∧ decode cX10_text 131 = .ok (.if_icmp .ne 5, 3) ∧ decode cX10_text 134 = .ok (.iconst (-1), 1) ∧ decode cX10_text 135 = .ok (.ireturn, 1) ∧ decode cX10_text 136 = .ok (.iload_n 1, 1) ∧ decode cX10_text 137 = .ok (.ifCond .ne 7, 3) ∧ decode cX10_text 140 = .ok (.iload_n 2, 1) ∧ decode cX10_text 141 = .ok (.goto 6, 3) ∧ decode cX10_text 144 = .ok (.iconst 2, 1) ∧ decode cX10_text 145 = .ok (.iload_n 2, 1) ∧ decode cX10_text 146 = .ok (.iadd, 1) ∧ decode cX10_text 147 = .ok (.istore 5, 2) ∧ decode cX10_text 149 = .ok (.iconst 0, 1) ∧ decode cX10_text 150 = .ok (.istore 6, 2) ∧ decode cX10_text 152 = .ok (.iload 6, 2) ∧ decode cX10_text 154 = .ok (.iload 4, 2) ∧ decode cX10_text 156 = .ok (.if_icmp .ge 170, 3) ∧ True := dqC_ok (c := cX10_text) [(103, 3, some (.ifCond .eq 25)), (106, 2, some (.iload 4)), (108, 1, some (.iconst (-1))), (109, 3, some (.if_icmp .ne 19)), (112, 1, some (.aload_n 0)), (113, 1, some (.aload_n 0)), (114, 3, some (.getfield 222)), (117, 3, some (.putfield 292)), (120, 1, some (.aload_n 0)), (121, 1, some (.aload_n 0)), (122, 3, some (.getfield 225)), (125, 3, some (.putfield 92)), (128, 2, some (.iload 4)), (130, 1, some (.iconst (-1))), (131, 3, some (.if_icmp .ne 5)), (134, 1, some (.iconst (-1))), (135, 1, some (.ireturn)), (136, 1, some (.iload_n 1)), (137, 3, some (.ifCond .ne 7)), (140, 1, some (.iload_n 2)), (141, 3, some (.goto 6)), (144, 1, some (.iconst 2)), (145, 1, some (.iload_n 2)), (146, 1, some (.iadd)), (147, 2, some (.istore 5)), (149, 1, some (.iconst 0)), (150, 2, some (.istore 6)), (152, 2, some (.iload 6)), (154, 2, some (.iload 4)), (156, 3, some (.if_icmp .ge 170))] _ 103 rfl (by decide +kernel)
theorem dX10_text_103 : decode cX10_text 103 = .ok (.ifCond .eq 25, 3) := dq_g337.1
theorem dX10_text_106 : decode cX10_text 106 = .ok (.iload 4, 2) := dq_g337.2.1
theorem dX10_text_108 : decode cX10_text 108 = .ok (.iconst (-1), 1) := dq_g337.2.2.1
theorem dX10_text_109 : decode cX10_text 109 = .ok (.if_icmp .ne 19, 3) := dq_g337.2.2.2.1
theorem dX10_text_112 : decode cX10_text 112 = .ok (.aload_n 0, 1) := dq_g337.2.2.2.2.1
theorem dX10_text_113 : decode cX10_text 113 = .ok (.aload_n 0, 1) := dq_g337.2.2.2.2.2.1
theorem dX10_text_114 : decode cX10_text 114 = .ok (.getfield 222, 3) := dq_g337.2.2.2.2.2.2.1
theorem dX10_text_117 : decode cX10_text 117 = .ok (.putfield 292, 3) := dq_g337.2.2.2.2.2.2.2.1
theorem dX10_text_120 : decode cX10_text 120 = .ok (.aload_n 0, 1) := dq_g337.2.2.2.2.2.2.2.2.1
theorem dX10_text_121 : decode cX10_text 121 = .ok (.aload_n 0, 1) := dq_g337.2.2.2.2.2.2.2.2.2.1
theorem dX10_text_122 : decode cX10_text 122 = .ok (.getfield 225, 3) := dq_g337.2.2.2.2.2.2.2.2.2.2.1
theorem dX10_text_125 : decode cX10_text 125 = .ok (.putfield 92, 3) := dq_g337.2.2.2.2.2.2.2.2.2.2.2.1
theorem dX10_text_128 : decode cX10_text 128 = .ok (.iload 4, 2) := dq_g337.2.2.2.2.2.2.2.2.2.2.2.2.1
theorem dX10_text_130 : decode cX10_text 130 = .ok (.iconst (-1), 1) := dq_g337.2.2.2.2.2.2.2.2.2.2.2.2.2.1
theorem dX10_text_131 : decode cX10_text 131 = .ok (.if_icmp .ne 5, 3) := dq_g337.2.2.2.2.2.2.2.2.2.2.2.2.2.2.1
theorem dX10_text_134 : decode cX10_text 134 = .ok (.iconst (-1), 1) := dq_g337.2.2.2.2.2.2.2.2.2.2.2.2.2.2.2.1
theorem dX10_text_135 : decode cX10_text 135 = .ok (.ireturn, 1) := dq_g337.2.2.2.2.2.2.2.2.2.2.2.2.2.2.2.2.1
theorem dX10_text_136 : decode cX10_text 136 = .ok (.iload_n 1, 1) := dq_g337.2.2.2.2.2.2.2.2.2.2.2.2.2.2.2.2.2.1
theorem dX10_text_137 : decode cX10_text 137 = .ok (.ifCond .ne 7, 3) := dq_g337.2.2.2.2.2.2.2.2.2.2.2.2.2.2.2.2.2.2.1
theorem dX10_text_140 : decode cX10_text 140 = .ok (.iload_n 2, 1) := dq_g337.2.2.2.2.2.2.2.2.2.2.2.2.2.2.2.2.2.2.2.1
theorem dX10_text_141 : decode cX10_text 141 = .ok (.goto 6, 3) := dq_g337.2.2.2.2.2.2.2.2.2.2.2.2.2.2.2.2.2.2.2.2.1
theorem dX10_text_144 : decode cX10_text 144 = .ok (.iconst 2, 1) := dq_g337.2.2.2.2.2.2.2.2.2.2.2.2.2.2.2.2.2.2.2.2.2.1
theorem dX10_text_145 : decode cX10_text 145 = .ok (.iload_n 2, 1) := dq_g337.2.2.2.2.2.2.2.2.2.2.2.2.2.2.2.2.2.2.2.2.2.2.1
theorem dX10_text_146 : decode cX10_text 146 = .ok (.iadd, 1) := dq_g337.2.2.2.2.2.2.2.2.2.2.2.2.2.2.2.2.2.2.2.2.2.2.2.1
theorem dX10_text_147 : decode cX10_text 147 = .ok (.istore 5, 2) := dq_g337.2.2.2.2.2.2.2.2.2.2.2.2.2.2.2.2.2.2.2.2.2.2.2.2.1
theorem dX10_text_149 : decode cX10_text 149 = .ok (.iconst 0, 1) := dq_g337.2.2.2.2.2.2.2.2.2.2.2.2.2.2.2.2.2.2.2.2.2.2.2.2.2.1
theorem dX10_text_150 : decode cX10_text 150 = .ok (.istore 6, 2) := dq_g337.2.2.2.2.2.2.2.2.2.2.2.2.2.2.2.2.2.2.2.2.2.2.2.2.2.2.1
theorem dX10_text_152 : decode cX10_text 152 = .ok (.iload 6, 2) := dq_g337.2.2.2.2.2.2.2.2.2.2.2.2.2.2.2.2.2.2.2.2.2.2.2.2.2.2.2.1
theorem dX10_text_154 : decode cX10_text 154 = .ok (.iload 4, 2) := dq_g337.2.2.2.2.2.2.2.2.2.2.2.2.2.2.2.2.2.2.2.2.2.2.2.2.2.2.2.2.1
theorem dX10_text_156 : decode cX10_text 156 = .ok (.if_icmp .ge 170, 3) := dq_g337.2.2.2.2.2.2.2.2.2.2.2.2.2.2.2.2.2.2.2.2.2.2.2.2.2.2.2.2.2.1
theorem dq_g338 : decode cX10_text 159 = .ok (.aload_n 0, 1) ∧ decode cX10_text 160 = .ok (.getfield 62, 3) ∧ decode cX10_text 163 = .ok (.bipush 16, 2) ∧ decode cX10_text 165 = .ok (.iload 5, 2) ∧ decode cX10_text 167 = .ok (.imul, 1) ∧ decode cX10_text 168 = .ok (.iload 6, 2) ∧ decode cX10_text 170 = .ok (.iadd, 1) ∧ decode cX10_text 171 = .ok (.aload_n 0, 1) ∧ decode cX10_text 172 = .ok (.getfield 62, 3) ∧ decode cX10_text 175 = .ok (.bipush 96, 2) ∧ decode cX10_text 177 = .ok (.iload 6, 2) ∧ decode cX10_text 179 = .ok (.iadd, 1) ∧ decode cX10_text 180 = .ok (.iaload, 1) ∧ decode cX10_text 181 = .ok (.iastore, 1) ∧ decode cX10_text 182 = .ok (.aload_n 0, 1) ∧ decode cX10_text 183 = .ok (.getfield 65, 3) ∧ decode cX10_text 186 = .ok (.bipush 16, 2) ∧ decode cX10_text 188 = .ok (.iload 5, 2) ∧ decode cX10_text 190 = .ok (.imul, 1) ∧ decode cX10_text 191 = .ok (.iload 6, 2) ∧ decode cX10_text 193 = .ok (.iadd, 1) ∧ decode cX10_text 194 = .ok (.aload_n 0, 1) ∧ decode cX10_text 195 = .ok (.getfield 65, 3) ∧ decode cX10_text 198 = .ok (.bipush 96, 2) ∧ decode cX10_text 200 = .ok (.iload 6, 2) ∧ decode cX10_text 202 = .ok (.iadd, 1) ∧ decode cX10_text 203 = .ok (.iaload, 1) ∧ decode cX10_text 204 = .ok (.iastore, 1) ∧ decode cX10_text 205 = .ok (.aload_n 0, 1) ∧ decode cX10_text 206 = .ok (.getfield 68, 3) ∧ True := dqC_ok (c := cX10_text) [(159, 1, some (.aload_n 0)), (160, 3, some (.getfield 62)), (163, 2, some (.bipush 16)), (165, 2, some (.iload 5)), (167, 1, some (.imul)), (168, 2, some (.iload 6)), (170, 1, some (.iadd)), (171, 1, some (.aload_n 0)), (172, 3, some (.getfield 62)), (175, 2, some (.bipush 96)), (177, 2, some (.iload 6)), (179, 1, some (.iadd)), (180, 1, some (.iaload)), (181, 1, some (.iastore)), (182, 1, some (.aload_n 0)), (183, 3, some (.getfield 65)), (186, 2, some (.bipush 16)), (188, 2, some (.iload 5)), (190, 1, some (.imul)), (191, 2, some (.iload 6)), (193, 1, some (.iadd)), (194, 1, some (.aload_n 0)), (195, 3, some (.getfield 65)), (198, 2, some (.bipush 96)), (200, 2, some (.iload 6)), (202, 1, some (.iadd)), (203, 1, some (.iaload)), (204, 1, some (.iastore)), (205, 1, some (.aload_n 0)), (206, 3, some (.getfield 68))] _ 159 rfl (by decide +kernel)
theorem dX10_text_159 : decode cX10_text 159 = .ok (.aload_n 0, 1) := dq_g338.1
theorem dX10_text_160 : decode cX10_text 160 = .ok (.getfield 62, 3) := dq_g338.2.1
theorem dX10_text_163 : decode cX10_text 163 = .ok (.bipush 16, 2) := dq_g338.2.2.1
theorem dX10_text_165 : decode cX10_text 165 = .ok (.iload 5, 2) := dq_g338.2.2.2.1
theorem dX10_text_167 : decode cX10_text 167 = .ok (.imul, 1) := dq_g338.2.2.2.2.1
theorem dX10_text_168 : decode cX10_text 168 = .ok (.iload 6, 2) := dq_g338.2.2.2.2.2.1
theorem dX10_text_170 : decode cX10_text 170 = .ok (.iadd, 1) := dq_g338.2.2.2.2.2.2.1
theorem dX10_text_171 : decode cX10_text 171 = .ok (.aload_n 0, 1) := dq_g338.2.2.2.2.2.2.2.1
theorem dX10_text_172 : decode cX10_text 172 = .ok (.getfield 62, 3) := dq_g338.2.2.2.2.2.2.2.2.1
theorem dX10_text_175 : decode cX10_text 175 = .ok (.bipush 96, 2) := dq_g338.2.2.2.2.2.2.2.2.2.1
theorem dX10_text_177 : decode cX10_text 177 = .ok (.iload 6, 2) := dq_g338.2.2.2.2.2.2.2.2.2.2.1
theorem dX10_text_179 : decode cX10_text 179 = .ok (.iadd, 1) := dq_g338.2.2.2.2.2.2.2.2.2.2.2.1
theorem dX10_text_180 : decode cX10_text 180 = .ok (.iaload, 1) := dq_g338.2.2.2.2.2.2.2.2.2.2.2.2.1
theorem dX10_text_181 : decode cX10_text 181 = .ok (.iastore, 1) := dq_g338.2.2.2.2.2.2.2.2.2.2.2.2.2.1
theorem dX10_text_182 : decode cX10_text 182 = .ok (.aload_n 0, 1) := dq_g338.2.2.2.2.2.2.2.2.2.2.2.2.2.2.1
theorem dX10_text_183 : decode cX10_text 183 = .ok (.getfield 65, 3) := dq_g338.2.2.2.2.2.2.2.2.2.2.2.2.2.2.2.1
theorem dX10_text_186 : decode cX10_text 186 = .ok (.bipush 16, 2) := dq_g338.2.2.2.2.2.2.2.2.2.2.2.2.2.2.2.2.1
theorem dX10_text_188 : decode cX10_text 188 = .ok (.iload 5, 2) := dq_g338.2.2.2.2.2.2.2.2.2.2.2.2.2.2.2.2.2.1
theorem dX10_text_190 : decode cX10_text 190 = .ok (.imul, 1) := dq_g338.2.2.2.2.2.2.2.2.2.2.2.2.2.2.2.2.2.2.1
theorem dX10_text_191 : decode cX10_text 191 = .ok (.iload 6, 2) := dq_g338.2.2.2.2.2.2.2.2.2.2.2.2.2.2.2.2.2.2.2.1
theorem dX10_text_193 : decode cX10_text 193 = .ok (.iadd, 1) := dq_g338.2.2.2.2.2.2.2.2.2.2.2.2.2.2.2.2.2.2.2.2.1
theorem dX10_text_194 : decode cX10_text 194 = .ok (.aload_n 0, 1) := dq_g338.2.2.2.2.2.2.2.2.2.2.2.2.2.2.2.2.2.2.2.2.2.1
theorem dX10_text_195 : decode cX10_text 195 = .ok (.getfield 65, 3) := dq_g338.2.2.2.2.2.2.2.2.2.2.2.2.2.2.2.2.2.2.2.2.2.2.1
theorem dX10_text_198 : decode cX10_text 198 = .ok (.bipush 96, 2) := dq_g338.2.2.2.2.2.2.2.2.2.2.2.2.2.2.2.2.2.2.2.2.2.2.2.1
theorem dX10_text_200 : decode cX10_text 200 = .ok (.iload 6, 2) := dq_g338.2.2.2.2.2.2.2.2.2.2.2.2.2.2.2.2.2.2.2.2.2.2.2.2.1
theorem dX10_text_202 : decode cX10_text 202 = .ok (.iadd, 1) := dq_g338.2.2.2.2.2.2.2.2.2.2.2.2.2.2.2.2.2.2.2.2.2.2.2.2.2.1
theorem dX10_text_203 : decode cX10_text 203 = .ok (.iaload, 1) := dq_g338.2.2.2.2.2.2.2.2.2.2.2.2.2.2.2.2.2.2.2.2.2.2.2.2.2.2.1
theorem dX10_text_204 : decode cX10_text 204 = .ok (.iastore, 1) := dq_g338.2.2.2.2.2.2.2.2.2.2.2.2.2.2.2.2.2.2.2.2.2.2.2.2.2.2.2.1
theorem dX10_text_205 : decode cX10_text 205 = .ok (.aload_n 0, 1) := dq_g338.2.2.2.2.2.2.2.2.2.2.2.2.2.2.2.2.2.2.2.2.2.2.2.2.2.2.2.2.1
theorem dX10_text_206 : decode cX10_text 206 = .ok (.getfield 68, 3) := dq_g338.2.2.2.2.2.2.2.2.2.2.2.2.2.2.2.2.2.2.2.2.2.2.2.2.2.2.2.2.2.1
theorem dq_g339 : decode cX10_text 209 = .ok (.bipush 16, 2) ∧ decode cX10_text 211 = .ok (.iload 5, 2) ∧ decode cX10_text 213 = .ok (.imul, 1) ∧ decode cX10_text 214 = .ok (.iload 6, 2) ∧ decode cX10_text 216 = .ok (.iadd, 1) ∧ decode cX10_text 217 = .ok (.aload_n 0, 1) ∧ decode cX10_text 218 = .ok (.getfield 68, 3) ∧ decode cX10_text 221 = .ok (.bipush 96, 2) ∧ decode cX10_text 223 = .ok (.iload 6, 2) ∧ decode cX10_text 225 = .ok (.iadd, 1) ∧ decode cX10_text 226 = .ok (.iaload, 1) ∧ decode cX10_text 227 = .ok (.iastore, 1) ∧ decode cX10_text 228 = .ok (.aload_n 0, 1) ∧ decode cX10_text 229 = .ok (.getfield 71, 3) ∧ decode cX10_text 232 = .ok (.bipush 16, 2) ∧ decode cX10_text 234 = .ok (.iload 5, 2) ∧ decode cX10_text 236 = .ok (.imul, 1) ∧ decode cX10_text 237 = .ok (.iload 6, 2) ∧ decode cX10_text 239 = .ok (.iadd, 1) ∧ decode cX10_text 240 = .ok (.aload_n 0, 1) ∧ decode cX10_text 241 = .ok (.getfield 71, 3) ∧ decode cX10_text 244 = .ok (.bipush 96, 2) ∧ decode cX10_text 246 = .ok (.iload 6, 2) ∧ decode cX10_text 248 = .ok (.iadd, 1) ∧ decode cX10_text 249 = .ok (.iaload, 1) ∧ decode cX10_text 250 = .ok (.iastore, 1) ∧ decode cX10_text 251 = .ok (.aload_n 0, 1) ∧ decode cX10_text 252 = .ok (.getfield 74, 3) ∧ decode cX10_text 255 = .ok (.bipush 16, 2) ∧ decode cX10_text 257 = .ok (.iload 5, 2) ∧ True := dqC_ok (c := cX10_text) [(209, 2, some (.bipush 16)), (211, 2, some (.iload 5)), (213, 1, some (.imul)), (214, 2, some (.iload 6)), (216, 1, some (.iadd)), (217, 1, some (.aload_n 0)), (218, 3, some (.getfield 68)), (221, 2, some (.bipush 96)), (223, 2, some (.iload 6)), (225, 1, some (.iadd)), (226, 1, some (.iaload)), (227, 1, some (.iastore)), (228, 1, some (.aload_n 0)), (229, 3, some (.getfield 71)), (232, 2, some (.bipush 16)), (234, 2, some (.iload 5)), (236, 1, some (.imul)), (237, 2, some (.iload 6)), (239, 1, some (.iadd)), (240, 1, some (.aload_n 0)), (241, 3, some (.getfield 71)), (244, 2, some (.bipush 96)), (246, 2, some (.iload 6)), (248, 1, some (.iadd)), (249, 1, some (.iaload)), (250, 1, some (.iastore)), (251, 1, some (.aload_n 0)), (252, 3, some (.getfield 74)), (255, 2, some (.bipush 16)), (257, 2, some (.iload 5))] _ 209 rfl (by decide +kernel)
theorem dX10_text_209 : decode cX10_text 209 = .ok (.bipush 16, 2) := dq_g339.1
theorem dX10_text_211 : decode cX10_text 211 = .ok (.iload 5, 2) := dq_g339.2.1
theorem dX10_text_213 : decode cX10_text 213 = .ok (.imul, 1) := dq_g339.2.2.1
theorem dX10_text_214 : decode cX10_text 214 = .ok (.iload 6, 2) := dq_g339.2.2.2.1
theorem dX10_text_216 : decode cX10_text 216 = .ok (.iadd, 1) := dq_g339.2.2.2.2.1
theorem dX10_text_217 : decode cX10_text 217 = .ok (.aload_n 0, 1) := dq_g339.2.2.2.2.2.1
theorem dX10_text_218 : decode cX10_text 218 = .ok (.getfield 68, 3) := dq_g339.2.2.2.2.2.2.1
theorem dX10_text_221 : decode cX10_text 221 = .ok (.bipush 96, 2) := dq_g339.2.2.2.2.2.2.2.1
theorem dX10_text_223 : decode cX10_text 223 = .ok (.iload 6, 2) := dq_g339.2.2.2.2.2.2.2.2.1
theorem dX10_text_225 : decode cX10_text 225 = .ok (.iadd, 1) := dq_g339.2.2.2.2.2.2.2.2.2.1
theorem dX10_text_226 : decode cX10_text 226 = .ok (.iaload, 1) := dq_g339.2.2.2.2.2.2.2.2.2.2.1
theorem dX10_text_227 : decode cX10_text 227 = .ok (.iastore, 1) := dq_g339.2.2.2.2.2.2.2.2.2.2.2.1
theorem dX10_text_228 : decode cX10_text 228 = .ok (.aload_n 0, 1) := dq_g339.2.2.2.2.2.2.2.2.2.2.2.2.1
theorem dX10_text_229 : decode cX10_text 229 = .ok (.getfield 71, 3) := dq_g339.2.2.2.2.2.2.2.2.2.2.2.2.2.1
theorem dX10_text_232 : decode cX10_text 232 = .ok (.bipush 16, 2) := dq_g339.2.2.2.2.2.2.2.2.2.2.2.2.2.2.1
theorem dX10_text_234 : decode cX10_text 234 = .ok (.iload 5, 2) := dq_g339.2.2.2.2.2.2.2.2.2.2.2.2.2.2.2.1
theorem dX10_text_236 : decode cX10_text 236 = .ok (.imul, 1) := dq_g339.2.2.2.2.2.2.2.2.2.2.2.2.2.2.2.2.1
theorem dX10_text_237 : decode cX10_text 237 = .ok (.iload 6, 2) := dq_g339.2.2.2.2.2.2.2.2.2.2.2.2.2.2.2.2.2.1
theorem dX10_text_239 : decode cX10_text 239 = .ok (.iadd, 1) := dq_g339.2.2.2.2.2.2.2.2.2.2.2.2.2.2.2.2.2.2.1
theorem dX10_text_240 : decode cX10_text 240 = .ok (.aload_n 0, 1) := dq_g339.2.2.2.2.2.2.2.2.2.2.2.2.2.2.2.2.2.2.2.1
theorem dX10_text_241 : decode cX10_text 241 = .ok (.getfield 71, 3) := dq_g339.2.2.2.2.2.2.2.2.2.2.2.2.2.2.2.2.2.2.2.2.1
theorem dX10_text_244 : decode cX10_text 244 = .ok (.bipush 96, 2) := dq_g339.2.2.2.2.2.2.2.2.2.2.2.2.2.2.2.2.2.2.2.2.2.1
theorem dX10_text_246 : decode cX10_text 246 = .ok (.iload 6, 2) := dq_g339.2.2.2.2.2.2.2.2.2.2.2.2.2.2.2.2.2.2.2.2.2.2.1
theorem dX10_text_248 : decode cX10_text 248 = .ok (.iadd, 1) := dq_g339.2.2.2.2.2.2.2.2.2.2.2.2.2.2.2.2.2.2.2.2.2.2.2.1
theorem dX10_text_249 : decode cX10_text 249 = .ok (.iaload, 1) := dq_g339.2.2.2.2.2.2.2.2.2.2.2.2.2.2.2.2.2.2.2.2.2.2.2.2.1
theorem dX10_text_250 : decode cX10_text 250 = .ok (.iastore, 1) := dq_g339.2.2.2.2.2.2.2.2.2.2.2.2.2.2.2.2.2.2.2.2.2.2.2.2.2.1
theorem dX10_text_251 : decode cX10_text 251 = .ok (.aload_n 0, 1) := dq_g339.2.2.2.2.2.2.2.2.2.2.2.2.2.2.2.2.2.2.2.2.2.2.2.2.2.2.1
theorem dX10_text_252 : decode cX10_text 252 = .ok (.getfield 74, 3) := dq_g339.2.2.2.2.2.2.2.2.2.2.2.2.2.2.2.2.2.2.2.2.2.2.2.2.2.2.2.1
theorem dX10_text_255 : decode cX10_text 255 = .ok (.bipush 16, 2) := dq_g339.2.2.2.2.2.2.2.2.2.2.2.2.2.2.2.2.2.2.2.2.2.2.2.2.2.2.2.2.1
theorem dX10_text_257 : decode cX10_text 257 = .ok (.iload 5, 2) := dq_g339.2.2.2.2.2.2.2.2.2.2.2.2.2.2.2.2.2.2.2.2.2.2.2.2.2.2.2.2.2.1
theorem dq_g340 : decode cX10_text 259 = .ok (.imul, 1) ∧ decode cX10_text 260 = .ok (.iload 6, 2) ∧ decode cX10_text 262 = .ok (.iadd, 1) ∧ decode cX10_text 263 = .ok (.aload_n 0, 1) ∧ decode cX10_text 264 = .ok (.getfield 74, 3) ∧ decode cX10_text 267 = .ok (.bipush 96, 2) ∧ decode cX10_text 269 = .ok (.iload 6, 2) ∧ decode cX10_text 271 = .ok (.iadd, 1) ∧ decode cX10_text 272 = .ok (.iaload, 1) ∧ decode cX10_text 273 = .ok (.iastore, 1) ∧ decode cX10_text 274 = .ok (.aload_n 0, 1) ∧ decode cX10_text 275 = .ok (.getfield 77, 3) ∧ decode cX10_text 278 = .ok (.bipush 16, 2) ∧ decode cX10_text 280 = .ok (.iload 5, 2) ∧ decode cX10_text 282 = .ok (.imul, 1) ∧ decode cX10_text 283 = .ok (.iload 6, 2) ∧ decode cX10_text 285 = .ok (.iadd, 1) ∧ decode cX10_text 286 = .ok (.aload_n 0, 1) ∧ decode cX10_text 287 = .ok (.getfield 77, 3) ∧ decode cX10_text 290 = .ok (.bipush 96, 2) ∧ decode cX10_text 292 = .ok (.iload 6, 2) ∧ decode cX10_text 294 = .ok (.iadd, 1) ∧ decode cX10_text 295 = .ok (.iaload, 1) ∧ decode cX10_text 296 = .ok (.iastore, 1) ∧ decode cX10_text 297 = .ok (.aload_n 0, 1) ∧ decode cX10_text 298 = .ok (.getfield 80, 3) ∧ decode cX10_text 301 = .ok (.bipush 16, 2) ∧ decode cX10_text 303 = .ok (.iload 5, 2) ∧ decode cX10_text 305 = .ok (.imul, 1) ∧ decode cX10_text 306 = .ok (.iload 6, 2) ∧ True := dqC_ok (c := cX10_text) [(259, 1, some (.imul)), (260, 2, some (.iload 6)), (262, 1, some (.iadd)), (263, 1, some (.aload_n 0)), (264, 3, some (.getfield 74)), (267, 2, some (.bipush 96)), (269, 2, some (.iload 6)), (271, 1, some (.iadd)), (272, 1, some (.iaload)), (273, 1, some (.iastore)), (274, 1, some (.aload_n 0)), (275, 3, some (.getfield 77)), (278, 2, some (.bipush 16)), (280, 2, some (.iload 5)), (282, 1, some (.imul)), (283, 2, some (.iload 6)), (285, 1, some (.iadd)), (286, 1, some (.aload_n 0)), (287, 3, some (.getfield 77)), (290, 2, some (.bipush 96)), (292, 2, some (.iload 6)), (294, 1, some (.iadd)), (295, 1, some (.iaload)), (296, 1, some (.iastore)), (297, 1, some (.aload_n 0)), (298, 3, some (.getfield 80)), (301, 2, some (.bipush 16)), (303, 2, some (.iload 5)), (305, 1, some (.imul)), (306, 2, some (.iload 6))] _ 259 rfl (by decide +kernel)
theorem dX10_text_259 : decode cX10_text 259 = .ok (.imul, 1) := dq_g340.1
theorem dX10_text_260 : decode cX10_text 260 = .ok (.iload 6, 2) := dq_g340.2.1
theorem dX10_text_262 : decode cX10_text 262 = .ok (.iadd, 1) := dq_g340.2.2.1
theorem dX10_text_263 : decode cX10_text 263 = .ok (.aload_n 0, 1) := dq_g340.2.2.2.1
theorem dX10_text_264 : decode cX10_text 264 = .ok (.getfield 74, 3) := dq_g340.2.2.2.2.1
theorem dX10_text_267 : decode cX10_text 267 = .ok (.bipush 96, 2) := dq_g340.2.2.2.2.2.1
theorem dX10_text_269 : decode cX10_text 269 = .ok (.iload 6, 2) := dq_g340.2.2.2.2.2.2.1
theorem dX10_text_271 : decode cX10_text 271 = .ok (.iadd, 1) := dq_g340.2.2.2.2.2.2.2.1
theorem dX10_text_272 : decode cX10_text 272 = .ok (.iaload, 1) := dq_g340.2.2.2.2.2.2.2.2.1
theorem dX10_text_273 : decode cX10_text 273 = .ok (.iastore, 1) := dq_g340.2.2.2.2.2.2.2.2.2.1
theorem dX10_text_274 : decode cX10_text 274 = .ok (.aload_n 0, 1) := dq_g340.2.2.2.2.2.2.2.2.2.2.1
theorem dX10_text_275 : decode cX10_text 275 = .ok (.getfield 77, 3) := dq_g340.2.2.2.2.2.2.2.2.2.2.2.1
theorem dX10_text_278 : decode cX10_text 278 = .ok (.bipush 16, 2) := dq_g340.2.2.2.2.2.2.2.2.2.2.2.2.1
theorem dX10_text_280 : decode cX10_text 280 = .ok (.iload 5, 2) := dq_g340.2.2.2.2.2.2.2.2.2.2.2.2.2.1
theorem dX10_text_282 : decode cX10_text 282 = .ok (.imul, 1) := dq_g340.2.2.2.2.2.2.2.2.2.2.2.2.2.2.1
theorem dX10_text_283 : decode cX10_text 283 = .ok (.iload 6, 2) := dq_g340.2.2.2.2.2.2.2.2.2.2.2.2.2.2.2.1
theorem dX10_text_285 : decode cX10_text 285 = .ok (.iadd, 1) := dq_g340.2.2.2.2.2.2.2.2.2.2.2.2.2.2.2.2.1
theorem dX10_text_286 : decode cX10_text 286 = .ok (.aload_n 0, 1) := dq_g340.2.2.2.2.2.2.2.2.2.2.2.2.2.2.2.2.2.1
theorem dX10_text_287 : decode cX10_text 287 = .ok (.getfield 77, 3) := dq_g340.2.2.2.2.2.2.2.2.2.2.2.2.2.2.2.2.2.2.1
theorem dX10_text_290 : decode cX10_text 290 = .ok (.bipush 96, 2) := dq_g340.2.2.2.2.2.2.2.2.2.2.2.2.2.2.2.2.2.2.2.1
theorem dX10_text_292 : decode cX10_text 292 = .ok (.iload 6, 2) := dq_g340.2.2.2.2.2.2.2.2.2.2.2.2.2.2.2.2.2.2.2.2.1
theorem dX10_text_294 : decode cX10_text 294 = .ok (.iadd, 1) := dq_g340.2.2.2.2.2.2.2.2.2.2.2.2.2.2.2.2.2.2.2.2.2.1
theorem dX10_text_295 : decode cX10_text 295 = .ok (.iaload, 1) := dq_g340.2.2.2.2.2.2.2.2.2.2.2.2.2.2.2.2.2.2.2.2.2.2.1
theorem dX10_text_296 : decode cX10_text 296 = .ok (.iastore, 1) := dq_g340.2.2.2.2.2.2.2.2.2.2.2.2.2.2.2.2.2.2.2.2.2.2.2.1
theorem dX10_text_297 : decode cX10_text 297 = .ok (.aload_n 0, 1) := dq_g340.2.2.2.2.2.2.2.2.2.2.2.2.2.2.2.2.2.2.2.2.2.2.2.2.1
theorem dX10_text_298 : decode cX10_text 298 = .ok (.getfield 80, 3) := dq_g340.2.2.2.2.2.2.2.2.2.2.2.2.2.2.2.2.2.2.2.2.2.2.2.2.2.1
theorem dX10_text_301 : decode cX10_text 301 = .ok (.bipush 16, 2) := dq_g340.2.2.2.2.2.2.2.2.2.2.2.2.2.2.2.2.2.2.2.2.2.2.2.2.2.2.1
theorem dX10_text_303 : decode cX10_text 303 = .ok (.iload 5, 2) := dq_g340.2.2.2.2.2.2.2.2.2.2.2.2.2.2.2.2.2.2.2.2.2.2.2.2.2.2.2.1
theorem dX10_text_305 : decode cX10_text 305 = .ok (.imul, 1) := dq_g340.2.2.2.2.2.2.2.2.2.2.2.2.2.2.2.2.2.2.2.2.2.2.2.2.2.2.2.2.1
theorem dX10_text_306 : decode cX10_text 306 = .ok (.iload 6, 2) := dq_g340.2.2.2.2.2.2.2.2.2.2.2.2.2.2.2.2.2.2.2.2.2.2.2.2.2.2.2.2.2.1
