theorem d_L_law_299 : decode code 299 = .ok (.invokevirtual 79, 3) := by decide +kernel
theorem d_L_law_302 : decode code 302 = .ok (.iload 5, 2) := by decide +kernel
theorem d_L_law_304 : decode code 304 = .ok (.if_icmp .eq (5), 3) := by decide +kernel
theorem d_L_law_307 : decode code 307 = .ok (.iconst 0, 1) := by decide +kernel
theorem d_L_law_308 : decode code 308 = .ok (.ireturn, 1) := by decide +kernel
theorem d_L_law_309 : decode code 309 = .ok (.goto (765), 3) := by decide +kernel
theorem d_L_law_312 : decode code 312 = .ok (.aload_n 1, 1) := by decide +kernel
theorem d_L_law_313 : decode code 313 = .ok (.aload_n 0, 1) := by decide +kernel
theorem d_L_law_314 : decode code 314 = .ok (.iload 4, 2) := by decide +kernel
theorem d_L_law_316 : decode code 316 = .ok (.iconst 1, 1) := by decide +kernel
theorem d_L_law_317 : decode code 317 = .ok (.iadd, 1) := by decide +kernel
theorem d_L_law_318 : decode code 318 = .ok (.iaload, 1) := by decide +kernel
theorem d_L_law_319 : decode code 319 = .ok (.aload_n 0, 1) := by decide +kernel
theorem d_L_law_320 : decode code 320 = .ok (.iload 4, 2) := by decide +kernel
theorem d_L_law_322 : decode code 322 = .ok (.iconst 2, 1) := by decide +kernel
theorem d_L_law_323 : decode code 323 = .ok (.iadd, 1) := by decide +kernel
theorem d_L_law_324 : decode code 324 = .ok (.iaload, 1) := by decide +kernel
theorem d_L_law_325 : decode code 325 = .ok (.aload_n 3, 1) := by decide +kernel
theorem d_L_law_326 : decode code 326 = .ok (.invokestatic 91, 3) := by decide +kernel
theorem d_L_law_329 : decode code 329 = .ok (.istore 5, 2) := by decide +kernel
theorem d_L_law_331 : decode code 331 = .ok (.aload_n 2, 1) := by decide +kernel
theorem d_L_law_332 : decode code 332 = .ok (.aload_n 0, 1) := by decide +kernel
theorem d_L_law_333 : decode code 333 = .ok (.iload 4, 2) := by decide +kernel
theorem d_L_law_335 : decode code 335 = .ok (.iconst 1, 1) := by decide +kernel
theorem d_L_law_336 : decode code 336 = .ok (.iadd, 1) := by decide +kernel
theorem d_L_law_337 : decode code 337 = .ok (.iaload, 1) := by decide +kernel
theorem d_L_law_338 : decode code 338 = .ok (.aload_n 0, 1) := by decide +kernel
theorem d_L_law_339 : decode code 339 = .ok (.iload 4, 2) := by decide +kernel
theorem d_L_law_341 : decode code 341 = .ok (.iconst 2, 1) := by decide +kernel
theorem d_L_law_342 : decode code 342 = .ok (.iadd, 1) := by decide +kernel
theorem d_L_law_343 : decode code 343 = .ok (.iaload, 1) := by decide +kernel
theorem d_L_law_344 : decode code 344 = .ok (.invokevirtual 94, 3) := by decide +kernel
theorem d_L_law_347 : decode code 347 = .ok (.istore 6, 2) := by decide +kernel
theorem d_L_law_349 : decode code 349 = .ok (.aload_n 2, 1) := by decide +kernel
theorem d_L_law_350 : decode code 350 = .ok (.invokevirtual 79, 3) := by decide +kernel
theorem d_L_law_353 : decode code 353 = .ok (.iload 5, 2) := by decide +kernel
theorem d_L_law_355 : decode code 355 = .ok (.if_icmp .eq (5), 3) := by decide +kernel
theorem d_L_law_358 : decode code 358 = .ok (.iconst 0, 1) := by decide +kernel
theorem d_L_law_359 : decode code 359 = .ok (.ireturn, 1) := by decide +kernel
theorem d_L_law_360 : decode code 360 = .ok (.iload 5, 2) := by decide +kernel
theorem d_L_law_362 : decode code 362 = .ok (.ifCond .ne (15), 3) := by decide +kernel
theorem d_L_law_365 : decode code 365 = .ok (.aload_n 3, 1) := by decide +kernel
theorem d_L_law_366 : decode code 366 = .ok (.iconst 0, 1) := by decide +kernel
theorem d_L_law_367 : decode code 367 = .ok (.laload, 1) := by decide +kernel
theorem d_L_law_368 : decode code 368 = .ok (.iload 6, 2) := by decide +kernel
theorem d_L_law_370 : decode code 370 = .ok (.i2l, 1) := by decide +kernel
theorem d_L_law_371 : decode code 371 = .ok (.lcmp, 1) := by decide +kernel
theorem d_L_law_372 : decode code 372 = .ok (.ifCond .eq (5), 3) := by decide +kernel
theorem d_L_law_375 : decode code 375 = .ok (.iconst 0, 1) := by decide +kernel
theorem d_L_law_376 : decode code 376 = .ok (.ireturn, 1) := by decide +kernel
theorem d_L_law_377 : decode code 377 = .ok (.goto (697), 3) := by decide +kernel
theorem d_L_law_380 : decode code 380 = .ok (.aload_n 1, 1) := by decide +kernel
theorem d_L_law_381 : decode code 381 = .ok (.aload_n 0, 1) := by decide +kernel
theorem d_L_law_382 : decode code 382 = .ok (.iload 4, 2) := by decide +kernel
theorem d_L_law_384 : decode code 384 = .ok (.iconst 1, 1) := by decide +kernel
theorem d_L_law_385 : decode code 385 = .ok (.iadd, 1) := by decide +kernel
theorem d_L_law_386 : decode code 386 = .ok (.iaload, 1) := by decide +kernel
theorem d_L_law_387 : decode code 387 = .ok (.aload_n 0, 1) := by decide +kernel
theorem d_L_law_388 : decode code 388 = .ok (.iload 4, 2) := by decide +kernel
theorem d_L_law_390 : decode code 390 = .ok (.iconst 2, 1) := by decide +kernel
theorem d_L_law_391 : decode code 391 = .ok (.iadd, 1) := by decide +kernel
theorem d_L_law_392 : decode code 392 = .ok (.iaload, 1) := by decide +kernel
theorem d_L_law_393 : decode code 393 = .ok (.aload_n 3, 1) := by decide +kernel
theorem d_L_law_394 : decode code 394 = .ok (.invokestatic 95, 3) := by decide +kernel
theorem d_L_law_397 : decode code 397 = .ok (.istore 5, 2) := by decide +kernel
theorem d_L_law_399 : decode code 399 = .ok (.aload_n 2, 1) := by decide +kernel
theorem d_L_law_400 : decode code 400 = .ok (.aload_n 0, 1) := by decide +kernel
theorem d_L_law_401 : decode code 401 = .ok (.iload 4, 2) := by decide +kernel
theorem d_L_law_403 : decode code 403 = .ok (.iconst 1, 1) := by decide +kernel
theorem d_L_law_404 : decode code 404 = .ok (.iadd, 1) := by decide +kernel
theorem d_L_law_405 : decode code 405 = .ok (.iaload, 1) := by decide +kernel
theorem d_L_law_406 : decode code 406 = .ok (.aload_n 0, 1) := by decide +kernel
theorem d_L_law_407 : decode code 407 = .ok (.iload 4, 2) := by decide +kernel
theorem d_L_law_409 : decode code 409 = .ok (.iconst 2, 1) := by decide +kernel
theorem d_L_law_410 : decode code 410 = .ok (.iadd, 1) := by decide +kernel
theorem d_L_law_411 : decode code 411 = .ok (.iaload, 1) := by decide +kernel
theorem d_L_law_412 : decode code 412 = .ok (.invokevirtual 97, 3) := by decide +kernel
theorem d_L_law_415 : decode code 415 = .ok (.istore 6, 2) := by decide +kernel
theorem d_L_law_417 : decode code 417 = .ok (.aload_n 2, 1) := by decide +kernel
theorem d_L_law_418 : decode code 418 = .ok (.invokevirtual 79, 3) := by decide +kernel
theorem d_L_law_421 : decode code 421 = .ok (.iload 5, 2) := by decide +kernel
theorem d_L_law_423 : decode code 423 = .ok (.if_icmp .eq (5), 3) := by decide +kernel
theorem d_L_law_426 : decode code 426 = .ok (.iconst 0, 1) := by decide +kernel
theorem d_L_law_427 : decode code 427 = .ok (.ireturn, 1) := by decide +kernel
theorem d_L_law_428 : decode code 428 = .ok (.iload 5, 2) := by decide +kernel
theorem d_L_law_430 : decode code 430 = .ok (.ifCond .ne (15), 3) := by decide +kernel
theorem d_L_law_433 : decode code 433 = .ok (.aload_n 3, 1) := by decide +kernel
theorem d_L_law_434 : decode code 434 = .ok (.iconst 0, 1) := by decide +kernel
theorem d_L_law_435 : decode code 435 = .ok (.laload, 1) := by decide +kernel
theorem d_L_law_436 : decode code 436 = .ok (.iload 6, 2) := by decide +kernel
theorem d_L_law_438 : decode code 438 = .ok (.i2l, 1) := by decide +kernel
theorem d_L_law_439 : decode code 439 = .ok (.lcmp, 1) := by decide +kernel
theorem d_L_law_440 : decode code 440 = .ok (.ifCond .eq (5), 3) := by decide +kernel
theorem d_L_law_443 : decode code 443 = .ok (.iconst 0, 1) := by decide +kernel
theorem d_L_law_444 : decode code 444 = .ok (.ireturn, 1) := by decide +kernel
theorem d_L_law_445 : decode code 445 = .ok (.goto (629), 3) := by decide +kernel
theorem d_L_law_448 : decode code 448 = .ok (.aload_n 1, 1) := by decide +kernel
theorem d_L_law_449 : decode code 449 = .ok (.aload_n 0, 1) := by decide +kernel
theorem d_L_law_450 : decode code 450 = .ok (.iload 4, 2) := by decide +kernel
theorem d_L_law_452 : decode code 452 = .ok (.iconst 1, 1) := by decide +kernel
theorem d_L_law_453 : decode code 453 = .ok (.iadd, 1) := by decide +kernel
theorem d_L_law_454 : decode code 454 = .ok (.iaload, 1) := by decide +kernel
theorem d_L_law_455 : decode code 455 = .ok (.aload_n 0, 1) := by decide +kernel
theorem d_L_law_456 : decode code 456 = .ok (.iload 4, 2) := by decide +kernel
theorem d_L_law_458 : decode code 458 = .ok (.iconst 2, 1) := by decide +kernel
theorem d_L_law_459 : decode code 459 = .ok (.iadd, 1) := by decide +kernel
theorem d_L_law_460 : decode code 460 = .ok (.iaload, 1) := by decide +kernel
theorem d_L_law_461 : decode code 461 = .ok (.aload_n 0, 1) := by decide +kernel
theorem d_L_law_462 : decode code 462 = .ok (.iload 4, 2) := by decide +kernel
theorem d_L_law_464 : decode code 464 = .ok (.iconst 3, 1) := by decide +kernel
theorem d_L_law_465 : decode code 465 = .ok (.iadd, 1) := by decide +kernel
theorem d_L_law_466 : decode code 466 = .ok (.iaload, 1) := by decide +kernel
theorem d_L_law_467 : decode code 467 = .ok (.aload_n 0, 1) := by decide +kernel
theorem d_L_law_468 : decode code 468 = .ok (.iload 4, 2) := by decide +kernel
theorem d_L_law_470 : decode code 470 = .ok (.iconst 4, 1) := by decide +kernel
theorem d_L_law_471 : decode code 471 = .ok (.iadd, 1) := by decide +kernel
theorem d_L_law_472 : decode code 472 = .ok (.iaload, 1) := by decide +kernel
theorem d_L_law_473 : decode code 473 = .ok (.invokestatic 98, 3) := by decide +kernel
theorem d_L_law_476 : decode code 476 = .ok (.istore 5, 2) := by decide +kernel
theorem d_L_law_478 : decode code 478 = .ok (.aload_n 2, 1) := by decide +kernel
theorem d_L_law_479 : decode code 479 = .ok (.aload_n 0, 1) := by decide +kernel
theorem d_L_law_480 : decode code 480 = .ok (.iload 4, 2) := by decide +kernel
theorem d_L_law_482 : decode code 482 = .ok (.iconst 1, 1) := by decide +kernel
theorem d_L_law_483 : decode code 483 = .ok (.iadd, 1) := by decide +kernel
theorem d_L_law_484 : decode code 484 = .ok (.iaload, 1) := by decide +kernel
theorem d_L_law_485 : decode code 485 = .ok (.aload_n 0, 1) := by decide +kernel
theorem d_L_law_486 : decode code 486 = .ok (.iload 4, 2) := by decide +kernel
theorem d_L_law_488 : decode code 488 = .ok (.iconst 2, 1) := by decide +kernel
theorem d_L_law_489 : decode code 489 = .ok (.iadd, 1) := by decide +kernel
theorem d_L_law_490 : decode code 490 = .ok (.iaload, 1) := by decide +kernel
theorem d_L_law_491 : decode code 491 = .ok (.aload_n 0, 1) := by decide +kernel
theorem d_L_law_492 : decode code 492 = .ok (.iload 4, 2) := by decide +kernel
theorem d_L_law_494 : decode code 494 = .ok (.iconst 3, 1) := by decide +kernel
theorem d_L_law_495 : decode code 495 = .ok (.iadd, 1) := by decide +kernel
theorem d_L_law_496 : decode code 496 = .ok (.iaload, 1) := by decide +kernel
theorem d_L_law_497 : decode code 497 = .ok (.aload_n 0, 1) := by decide +kernel
theorem d_L_law_498 : decode code 498 = .ok (.iload 4, 2) := by decide +kernel
theorem d_L_law_500 : decode code 500 = .ok (.iconst 4, 1) := by decide +kernel
theorem d_L_law_501 : decode code 501 = .ok (.iadd, 1) := by decide +kernel
theorem d_L_law_502 : decode code 502 = .ok (.iaload, 1) := by decide +kernel
theorem d_L_law_503 : decode code 503 = .ok (.invokevirtual 100, 3) := by decide +kernel
theorem d_L_law_506 : decode code 506 = .ok (.aload_n 2, 1) := by decide +kernel
theorem d_L_law_507 : decode code 507 = .ok (.invokevirtual 79, 3) := by decide +kernel
theorem d_L_law_510 : decode code 510 = .ok (.iload 5, 2) := by decide +kernel
theorem d_L_law_512 : decode code 512 = .ok (.if_icmp .eq (5), 3) := by decide +kernel
theorem d_L_law_515 : decode code 515 = .ok (.iconst 0, 1) := by decide +kernel
theorem d_L_law_516 : decode code 516 = .ok (.ireturn, 1) := by decide +kernel
theorem d_L_law_517 : decode code 517 = .ok (.goto (557), 3) := by decide +kernel
theorem d_L_law_520 : decode code 520 = .ok (.aload_n 1, 1) := by decide +kernel
theorem d_L_law_521 : decode code 521 = .ok (.aload_n 0, 1) := by decide +kernel
theorem d_L_law_522 : decode code 522 = .ok (.iload 4, 2) := by decide +kernel
theorem d_L_law_524 : decode code 524 = .ok (.iconst 1, 1) := by decide +kernel
theorem d_L_law_525 : decode code 525 = .ok (.iadd, 1) := by decide +kernel
theorem d_L_law_526 : decode code 526 = .ok (.iaload, 1) := by decide +kernel
theorem d_L_law_527 : decode code 527 = .ok (.aload_n 0, 1) := by decide +kernel
theorem d_L_law_528 : decode code 528 = .ok (.iload 4, 2) := by decide +kernel
theorem d_L_law_530 : decode code 530 = .ok (.iconst 2, 1) := by decide +kernel
theorem d_L_law_531 : decode code 531 = .ok (.iadd, 1) := by decide +kernel
theorem d_L_law_532 : decode code 532 = .ok (.iaload, 1) := by decide +kernel
theorem d_L_law_533 : decode code 533 = .ok (.invokestatic 101, 3) := by decide +kernel
theorem d_L_law_536 : decode code 536 = .ok (.istore 5, 2) := by decide +kernel
theorem d_L_law_538 : decode code 538 = .ok (.aload_n 2, 1) := by decide +kernel
theorem d_L_law_539 : decode code 539 = .ok (.aload_n 0, 1) := by decide +kernel
theorem d_L_law_540 : decode code 540 = .ok (.iload 4, 2) := by decide +kernel
theorem d_L_law_542 : decode code 542 = .ok (.iconst 1, 1) := by decide +kernel
theorem d_L_law_543 : decode code 543 = .ok (.iadd, 1) := by decide +kernel
theorem d_L_law_544 : decode code 544 = .ok (.iaload, 1) := by decide +kernel
theorem d_L_law_545 : decode code 545 = .ok (.aload_n 0, 1) := by decide +kernel
theorem d_L_law_546 : decode code 546 = .ok (.iload 4, 2) := by decide +kernel
theorem d_L_law_548 : decode code 548 = .ok (.iconst 2, 1) := by decide +kernel
theorem d_L_law_549 : decode code 549 = .ok (.iadd, 1) := by decide +kernel
theorem d_L_law_550 : decode code 550 = .ok (.iaload, 1) := by decide +kernel
theorem d_L_law_551 : decode code 551 = .ok (.invokevirtual 103, 3) := by decide +kernel
theorem d_L_law_554 : decode code 554 = .ok (.aload_n 2, 1) := by decide +kernel
theorem d_L_law_555 : decode code 555 = .ok (.invokevirtual 79, 3) := by decide +kernel
theorem d_L_law_558 : decode code 558 = .ok (.iload 5, 2) := by decide +kernel
theorem d_L_law_560 : decode code 560 = .ok (.if_icmp .eq (5), 3) := by decide +kernel
theorem d_L_law_563 : decode code 563 = .ok (.iconst 0, 1) := by decide +kernel
theorem d_L_law_564 : decode code 564 = .ok (.ireturn, 1) := by decide +kernel
theorem d_L_law_565 : decode code 565 = .ok (.goto (509), 3) := by decide +kernel
theorem d_L_law_568 : decode code 568 = .ok (.aload_n 1, 1) := by decide +kernel
theorem d_L_law_569 : decode code 569 = .ok (.aload_n 0, 1) := by decide +kernel
theorem d_L_law_570 : decode code 570 = .ok (.iload 4, 2) := by decide +kernel
theorem d_L_law_572 : decode code 572 = .ok (.iconst 1, 1) := by decide +kernel
theorem d_L_law_573 : decode code 573 = .ok (.iadd, 1) := by decide +kernel
theorem d_L_law_574 : decode code 574 = .ok (.iaload, 1) := by decide +kernel
theorem d_L_law_575 : decode code 575 = .ok (.aload_n 0, 1) := by decide +kernel
theorem d_L_law_576 : decode code 576 = .ok (.iload 4, 2) := by decide +kernel
theorem d_L_law_578 : decode code 578 = .ok (.iconst 2, 1) := by decide +kernel
theorem d_L_law_579 : decode code 579 = .ok (.iadd, 1) := by decide +kernel
theorem d_L_law_580 : decode code 580 = .ok (.iaload, 1) := by decide +kernel
theorem d_L_law_581 : decode code 581 = .ok (.aload_n 3, 1) := by decide +kernel
theorem d_L_law_582 : decode code 582 = .ok (.invokestatic 104, 3) := by decide +kernel
theorem d_L_law_585 : decode code 585 = .ok (.istore 5, 2) := by decide +kernel
theorem d_L_law_587 : decode code 587 = .ok (.aload_n 2, 1) := by decide +kernel
theorem d_L_law_588 : decode code 588 = .ok (.aload_n 0, 1) := by decide +kernel
theorem d_L_law_589 : decode code 589 = .ok (.iload 4, 2) := by decide +kernel
theorem d_L_law_591 : decode code 591 = .ok (.iconst 1, 1) := by decide +kernel
theorem d_L_law_592 : decode code 592 = .ok (.iadd, 1) := by decide +kernel
theorem d_L_law_593 : decode code 593 = .ok (.iaload, 1) := by decide +kernel
theorem d_L_law_594 : decode code 594 = .ok (.aload_n 0, 1) := by decide +kernel
theorem d_L_law_595 : decode code 595 = .ok (.iload 4, 2) := by decide +kernel
theorem d_L_law_597 : decode code 597 = .ok (.iconst 2, 1) := by decide +kernel
theorem d_L_law_598 : decode code 598 = .ok (.iadd, 1) := by decide +kernel
theorem d_L_law_599 : decode code 599 = .ok (.iaload, 1) := by decide +kernel
theorem d_L_law_600 : decode code 600 = .ok (.invokevirtual 106, 3) := by decide +kernel
theorem d_L_law_603 : decode code 603 = .ok (.istore 6, 2) := by decide +kernel
theorem d_L_law_605 : decode code 605 = .ok (.aload_n 2, 1) := by decide +kernel
theorem d_L_law_606 : decode code 606 = .ok (.invokevirtual 79, 3) := by decide +kernel
theorem d_L_law_609 : decode code 609 = .ok (.iload 5, 2) := by decide +kernel
theorem d_L_law_611 : decode code 611 = .ok (.if_icmp .eq (5), 3) := by decide +kernel
theorem d_L_law_614 : decode code 614 = .ok (.iconst 0, 1) := by decide +kernel
theorem d_L_law_615 : decode code 615 = .ok (.ireturn, 1) := by decide +kernel
theorem d_L_law_616 : decode code 616 = .ok (.iload 5, 2) := by decide +kernel
theorem d_L_law_618 : decode code 618 = .ok (.ifCond .ne (15), 3) := by decide +kernel
theorem d_L_law_621 : decode code 621 = .ok (.aload_n 3, 1) := by decide +kernel
theorem d_L_law_622 : decode code 622 = .ok (.iconst 0, 1) := by decide +kernel
theorem d_L_law_623 : decode code 623 = .ok (.laload, 1) := by decide +kernel
theorem d_L_law_624 : decode code 624 = .ok (.iload 6, 2) := by decide +kernel
theorem d_L_law_626 : decode code 626 = .ok (.i2l, 1) := by decide +kernel
theorem d_L_law_627 : decode code 627 = .ok (.lcmp, 1) := by decide +kernel
theorem d_L_law_628 : decode code 628 = .ok (.ifCond .eq (5), 3) := by decide +kernel
theorem d_L_law_631 : decode code 631 = .ok (.iconst 0, 1) := by decide +kernel
theorem d_L_law_632 : decode code 632 = .ok (.ireturn, 1) := by decide +kernel
theorem d_L_law_633 : decode code 633 = .ok (.goto (441), 3) := by decide +kernel
theorem d_L_law_636 : decode code 636 = .ok (.aload_n 1, 1) := by decide +kernel
theorem d_L_law_637 : decode code 637 = .ok (.aload_n 0, 1) := by decide +kernel
theorem d_L_law_638 : decode code 638 = .ok (.iload 4, 2) := by decide +kernel
theorem d_L_law_640 : decode code 640 = .ok (.iconst 1, 1) := by decide +kernel
theorem d_L_law_641 : decode code 641 = .ok (.iadd, 1) := by decide +kernel
theorem d_L_law_642 : decode code 642 = .ok (.iaload, 1) := by decide +kernel
theorem d_L_law_643 : decode code 643 = .ok (.aload_n 3, 1) := by decide +kernel
theorem d_L_law_644 : decode code 644 = .ok (.invokestatic 107, 3) := by decide +kernel
theorem d_L_law_647 : decode code 647 = .ok (.istore 5, 2) := by decide +kernel
theorem d_L_law_649 : decode code 649 = .ok (.aload_n 2, 1) := by decide +kernel
theorem d_L_law_650 : decode code 650 = .ok (.aload_n 0, 1) := by decide +kernel
theorem d_L_law_651 : decode code 651 = .ok (.iload 4, 2) := by decide +kernel
theorem d_L_law_653 : decode code 653 = .ok (.iconst 1, 1) := by decide +kernel
theorem d_L_law_654 : decode code 654 = .ok (.iadd, 1) := by decide +kernel
theorem d_L_law_655 : decode code 655 = .ok (.iaload, 1) := by decide +kernel
theorem d_L_law_656 : decode code 656 = .ok (.invokevirtual 110, 3) := by decide +kernel
theorem d_L_law_659 : decode code 659 = .ok (.istore 6, 2) := by decide +kernel
theorem d_L_law_661 : decode code 661 = .ok (.aload_n 2, 1) := by decide +kernel
theorem d_L_law_662 : decode code 662 = .ok (.invokevirtual 79, 3) := by decide +kernel
theorem d_L_law_665 : decode code 665 = .ok (.iload 5, 2) := by decide +kernel
theorem d_L_law_667 : decode code 667 = .ok (.if_icmp .eq (5), 3) := by decide +kernel
theorem d_L_law_670 : decode code 670 = .ok (.iconst 0, 1) := by decide +kernel
theorem d_L_law_671 : decode code 671 = .ok (.ireturn, 1) := by decide +kernel
theorem d_L_law_672 : decode code 672 = .ok (.iload 5, 2) := by decide +kernel
theorem d_L_law_674 : decode code 674 = .ok (.ifCond .ne (15), 3) := by decide +kernel
theorem d_L_law_677 : decode code 677 = .ok (.aload_n 3, 1) := by decide +kernel
theorem d_L_law_678 : decode code 678 = .ok (.iconst 0, 1) := by decide +kernel
theorem d_L_law_679 : decode code 679 = .ok (.laload, 1) := by decide +kernel
theorem d_L_law_680 : decode code 680 = .ok (.iload 6, 2) := by decide +kernel
theorem d_L_law_682 : decode code 682 = .ok (.i2l, 1) := by decide +kernel
theorem d_L_law_683 : decode code 683 = .ok (.lcmp, 1) := by decide +kernel
theorem d_L_law_684 : decode code 684 = .ok (.ifCond .eq (5), 3) := by decide +kernel
theorem d_L_law_687 : decode code 687 = .ok (.iconst 0, 1) := by decide +kernel
theorem d_L_law_688 : decode code 688 = .ok (.ireturn, 1) := by decide +kernel
theorem d_L_law_689 : decode code 689 = .ok (.goto (385), 3) := by decide +kernel
theorem d_L_law_692 : decode code 692 = .ok (.aload_n 1, 1) := by decide +kernel
theorem d_L_law_693 : decode code 693 = .ok (.aload_n 0, 1) := by decide +kernel
theorem d_L_law_694 : decode code 694 = .ok (.iload 4, 2) := by decide +kernel
theorem d_L_law_696 : decode code 696 = .ok (.iconst 1, 1) := by decide +kernel
theorem d_L_law_697 : decode code 697 = .ok (.iadd, 1) := by decide +kernel
theorem d_L_law_698 : decode code 698 = .ok (.iaload, 1) := by decide +kernel
theorem d_L_law_699 : decode code 699 = .ok (.aload_n 0, 1) := by decide +kernel
theorem d_L_law_700 : decode code 700 = .ok (.iload 4, 2) := by decide +kernel
theorem d_L_law_702 : decode code 702 = .ok (.iconst 2, 1) := by decide +kernel
theorem d_L_law_703 : decode code 703 = .ok (.iadd, 1) := by decide +kernel
theorem d_L_law_704 : decode code 704 = .ok (.iaload, 1) := by decide +kernel
theorem d_L_law_705 : decode code 705 = .ok (.aload_n 3, 1) := by decide +kernel
theorem d_L_law_706 : decode code 706 = .ok (.invokestatic 111, 3) := by decide +kernel
theorem d_L_law_709 : decode code 709 = .ok (.istore 5, 2) := by decide +kernel
theorem d_L_law_711 : decode code 711 = .ok (.aload_n 2, 1) := by decide +kernel
theorem d_L_law_712 : decode code 712 = .ok (.aload_n 0, 1) := by decide +kernel
theorem d_L_law_713 : decode code 713 = .ok (.iload 4, 2) := by decide +kernel
theorem d_L_law_715 : decode code 715 = .ok (.iconst 1, 1) := by decide +kernel
theorem d_L_law_716 : decode code 716 = .ok (.iadd, 1) := by decide +kernel
theorem d_L_law_717 : decode code 717 = .ok (.iaload, 1) := by decide +kernel
theorem d_L_law_718 : decode code 718 = .ok (.aload_n 0, 1) := by decide +kernel
theorem d_L_law_719 : decode code 719 = .ok (.iload 4, 2) := by decide +kernel
theorem d_L_law_721 : decode code 721 = .ok (.iconst 2, 1) := by decide +kernel
theorem d_L_law_722 : decode code 722 = .ok (.iadd, 1) := by decide +kernel
theorem d_L_law_723 : decode code 723 = .ok (.iaload, 1) := by decide +kernel
theorem d_L_law_724 : decode code 724 = .ok (.invokevirtual 113, 3) := by decide +kernel
theorem d_L_law_727 : decode code 727 = .ok (.istore 6, 2) := by decide +kernel
theorem d_L_law_729 : decode code 729 = .ok (.aload_n 2, 1) := by decide +kernel
theorem d_L_law_730 : decode code 730 = .ok (.invokevirtual 79, 3) := by decide +kernel
theorem d_L_law_733 : decode code 733 = .ok (.iload 5, 2) := by decide +kernel
theorem d_L_law_735 : decode code 735 = .ok (.if_icmp .eq (5), 3) := by decide +kernel
theorem d_L_law_738 : decode code 738 = .ok (.iconst 0, 1) := by decide +kernel
theorem d_L_law_739 : decode code 739 = .ok (.ireturn, 1) := by decide +kernel
theorem d_L_law_740 : decode code 740 = .ok (.iload 5, 2) := by decide +kernel
theorem d_L_law_742 : decode code 742 = .ok (.ifCond .ne (15), 3) := by decide +kernel
theorem d_L_law_745 : decode code 745 = .ok (.aload_n 3, 1) := by decide +kernel
theorem d_L_law_746 : decode code 746 = .ok (.iconst 0, 1) := by decide +kernel
theorem d_L_law_747 : decode code 747 = .ok (.laload, 1) := by decide +kernel
theorem d_L_law_748 : decode code 748 = .ok (.iload 6, 2) := by decide +kernel
theorem d_L_law_750 : decode code 750 = .ok (.i2l, 1) := by decide +kernel
theorem d_L_law_751 : decode code 751 = .ok (.lcmp, 1) := by decide +kernel
theorem d_L_law_752 : decode code 752 = .ok (.ifCond .eq (5), 3) := by decide +kernel
theorem d_L_law_755 : decode code 755 = .ok (.iconst 0, 1) := by decide +kernel
theorem d_L_law_756 : decode code 756 = .ok (.ireturn, 1) := by decide +kernel
theorem d_L_law_757 : decode code 757 = .ok (.goto (317), 3) := by decide +kernel
theorem d_L_law_760 : decode code 760 = .ok (.aload_n 1, 1) := by decide +kernel
theorem d_L_law_761 : decode code 761 = .ok (.aload_n 0, 1) := by decide +kernel
theorem d_L_law_762 : decode code 762 = .ok (.iload 4, 2) := by decide +kernel
theorem d_L_law_764 : decode code 764 = .ok (.iconst 1, 1) := by decide +kernel
theorem d_L_law_765 : decode code 765 = .ok (.iadd, 1) := by decide +kernel
theorem d_L_law_766 : decode code 766 = .ok (.iaload, 1) := by decide +kernel
theorem d_L_law_767 : decode code 767 = .ok (.aload_n 0, 1) := by decide +kernel
theorem d_L_law_768 : decode code 768 = .ok (.iload 4, 2) := by decide +kernel
theorem d_L_law_770 : decode code 770 = .ok (.iconst 2, 1) := by decide +kernel
theorem d_L_law_771 : decode code 771 = .ok (.iadd, 1) := by decide +kernel
theorem d_L_law_772 : decode code 772 = .ok (.iaload, 1) := by decide +kernel
theorem d_L_law_773 : decode code 773 = .ok (.aload_n 0, 1) := by decide +kernel
theorem d_L_law_774 : decode code 774 = .ok (.iload 4, 2) := by decide +kernel
theorem d_L_law_776 : decode code 776 = .ok (.iconst 3, 1) := by decide +kernel
theorem d_L_law_777 : decode code 777 = .ok (.iadd, 1) := by decide +kernel
theorem d_L_law_778 : decode code 778 = .ok (.iaload, 1) := by decide +kernel
theorem d_L_law_779 : decode code 779 = .ok (.aload_n 0, 1) := by decide +kernel
theorem d_L_law_780 : decode code 780 = .ok (.iload 4, 2) := by decide +kernel
theorem d_L_law_782 : decode code 782 = .ok (.iconst 4, 1) := by decide +kernel
theorem d_L_law_783 : decode code 783 = .ok (.iadd, 1) := by decide +kernel
theorem d_L_law_784 : decode code 784 = .ok (.iaload, 1) := by decide +kernel
theorem d_L_law_785 : decode code 785 = .ok (.aload_n 3, 1) := by decide +kernel
theorem d_L_law_786 : decode code 786 = .ok (.invokestatic 114, 3) := by decide +kernel
theorem d_L_law_789 : decode code 789 = .ok (.istore 5, 2) := by decide +kernel
theorem d_L_law_791 : decode code 791 = .ok (.aload_n 2, 1) := by decide +kernel
theorem d_L_law_792 : decode code 792 = .ok (.aload_n 0, 1) := by decide +kernel
theorem d_L_law_793 : decode code 793 = .ok (.iload 4, 2) := by decide +kernel
theorem d_L_law_795 : decode code 795 = .ok (.iconst 1, 1) := by decide +kernel
theorem d_L_law_796 : decode code 796 = .ok (.iadd, 1) := by decide +kernel
theorem d_L_law_797 : decode code 797 = .ok (.iaload, 1) := by decide +kernel
theorem d_L_law_798 : decode code 798 = .ok (.aload_n 0, 1) := by decide +kernel
theorem d_L_law_799 : decode code 799 = .ok (.iload 4, 2) := by decide +kernel
theorem d_L_law_801 : decode code 801 = .ok (.iconst 2, 1) := by decide +kernel
theorem d_L_law_802 : decode code 802 = .ok (.iadd, 1) := by decide +kernel
theorem d_L_law_803 : decode code 803 = .ok (.iaload, 1) := by decide +kernel
theorem d_L_law_804 : decode code 804 = .ok (.aload_n 0, 1) := by decide +kernel
theorem d_L_law_805 : decode code 805 = .ok (.iload 4, 2) := by decide +kernel
theorem d_L_law_807 : decode code 807 = .ok (.iconst 3, 1) := by decide +kernel
theorem d_L_law_808 : decode code 808 = .ok (.iadd, 1) := by decide +kernel
theorem d_L_law_809 : decode code 809 = .ok (.iaload, 1) := by decide +kernel
theorem d_L_law_810 : decode code 810 = .ok (.aload_n 0, 1) := by decide +kernel
theorem d_L_law_811 : decode code 811 = .ok (.iload 4, 2) := by decide +kernel
theorem d_L_law_813 : decode code 813 = .ok (.iconst 4, 1) := by decide +kernel
theorem d_L_law_814 : decode code 814 = .ok (.iadd, 1) := by decide +kernel
theorem d_L_law_815 : decode code 815 = .ok (.iaload, 1) := by decide +kernel
theorem d_L_law_816 : decode code 816 = .ok (.invokevirtual 117, 3) := by decide +kernel
theorem d_L_law_819 : decode code 819 = .ok (.lstore 6, 2) := by decide +kernel
theorem d_L_law_821 : decode code 821 = .ok (.aload_n 2, 1) := by decide +kernel
theorem d_L_law_822 : decode code 822 = .ok (.invokevirtual 79, 3) := by decide +kernel
theorem d_L_law_825 : decode code 825 = .ok (.iload 5, 2) := by decide +kernel
theorem d_L_law_827 : decode code 827 = .ok (.if_icmp .eq (5), 3) := by decide +kernel
theorem d_L_law_830 : decode code 830 = .ok (.iconst 0, 1) := by decide +kernel
theorem d_L_law_831 : decode code 831 = .ok (.ireturn, 1) := by decide +kernel
theorem d_L_law_832 : decode code 832 = .ok (.iload 5, 2) := by decide +kernel
theorem d_L_law_834 : decode code 834 = .ok (.ifCond .ne (14), 3) := by decide +kernel
theorem d_L_law_837 : decode code 837 = .ok (.aload_n 3, 1) := by decide +kernel
theorem d_L_law_838 : decode code 838 = .ok (.iconst 0, 1) := by decide +kernel
theorem d_L_law_839 : decode code 839 = .ok (.laload, 1) := by decide +kernel
theorem d_L_law_840 : decode code 840 = .ok (.lload 6, 2) := by decide +kernel
theorem d_L_law_842 : decode code 842 = .ok (.lcmp, 1) := by decide +kernel
theorem d_L_law_843 : decode code 843 = .ok (.ifCond .eq (5), 3) := by decide +kernel
theorem d_L_law_846 : decode code 846 = .ok (.iconst 0, 1) := by decide +kernel
theorem d_L_law_847 : decode code 847 = .ok (.ireturn, 1) := by decide +kernel
theorem d_L_law_848 : decode code 848 = .ok (.goto (226), 3) := by decide +kernel
theorem d_L_law_851 : decode code 851 = .ok (.aload_n 1, 1) := by decide +kernel
theorem d_L_law_852 : decode code 852 = .ok (.aload_n 0, 1) := by decide +kernel
theorem d_L_law_853 : decode code 853 = .ok (.iload 4, 2) := by decide +kernel
theorem d_L_law_855 : decode code 855 = .ok (.iconst 1, 1) := by decide +kernel
theorem d_L_law_856 : decode code 856 = .ok (.iadd, 1) := by decide +kernel
theorem d_L_law_857 : decode code 857 = .ok (.iaload, 1) := by decide +kernel
theorem d_L_law_858 : decode code 858 = .ok (.aload_n 3, 1) := by decide +kernel
theorem d_L_law_859 : decode code 859 = .ok (.invokestatic 118, 3) := by decide +kernel
theorem d_L_law_862 : decode code 862 = .ok (.istore 5, 2) := by decide +kernel
theorem d_L_law_864 : decode code 864 = .ok (.aload_n 2, 1) := by decide +kernel
theorem d_L_law_865 : decode code 865 = .ok (.aload_n 0, 1) := by decide +kernel
theorem d_L_law_866 : decode code 866 = .ok (.iload 4, 2) := by decide +kernel
theorem d_L_law_868 : decode code 868 = .ok (.iconst 1, 1) := by decide +kernel
theorem d_L_law_869 : decode code 869 = .ok (.iadd, 1) := by decide +kernel
theorem d_L_law_870 : decode code 870 = .ok (.iaload, 1) := by decide +kernel
theorem d_L_law_871 : decode code 871 = .ok (.invokevirtual 120, 3) := by decide +kernel
theorem d_L_law_874 : decode code 874 = .ok (.lstore 6, 2) := by decide +kernel
theorem d_L_law_876 : decode code 876 = .ok (.aload_n 2, 1) := by decide +kernel
theorem d_L_law_877 : decode code 877 = .ok (.invokevirtual 79, 3) := by decide +kernel
theorem d_L_law_880 : decode code 880 = .ok (.iload 5, 2) := by decide +kernel
theorem d_L_law_882 : decode code 882 = .ok (.if_icmp .eq (5), 3) := by decide +kernel
theorem d_L_law_885 : decode code 885 = .ok (.iconst 0, 1) := by decide +kernel
theorem d_L_law_886 : decode code 886 = .ok (.ireturn, 1) := by decide +kernel
theorem d_L_law_887 : decode code 887 = .ok (.iload 5, 2) := by decide +kernel
theorem d_L_law_889 : decode code 889 = .ok (.ifCond .ne (14), 3) := by decide +kernel
theorem d_L_law_892 : decode code 892 = .ok (.aload_n 3, 1) := by decide +kernel
theorem d_L_law_893 : decode code 893 = .ok (.iconst 0, 1) := by decide +kernel
theorem d_L_law_894 : decode code 894 = .ok (.laload, 1) := by decide +kernel
theorem d_L_law_895 : decode code 895 = .ok (.lload 6, 2) := by decide +kernel
theorem d_L_law_897 : decode code 897 = .ok (.lcmp, 1) := by decide +kernel
theorem d_L_law_898 : decode code 898 = .ok (.ifCond .eq (5), 3) := by decide +kernel
