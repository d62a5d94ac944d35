theorem d_Law_law_298 : decode code 298 = .ok (.ireturn, 1) := by decide +kernel
theorem d_Law_law_299 : decode code 299 = .ok (.iload 5, 2) := by decide +kernel
theorem d_Law_law_301 : decode code 301 = .ok (.ifCond .ne 15, 3) := by decide +kernel
theorem d_Law_law_304 : decode code 304 = .ok (.aload_n 3, 1) := by decide +kernel
theorem d_Law_law_305 : decode code 305 = .ok (.iconst 0, 1) := by decide +kernel
theorem d_Law_law_306 : decode code 306 = .ok (.laload, 1) := by decide +kernel
theorem d_Law_law_307 : decode code 307 = .ok (.iload 6, 2) := by decide +kernel
theorem d_Law_law_309 : decode code 309 = .ok (.i2l, 1) := by decide +kernel
theorem d_Law_law_310 : decode code 310 = .ok (.lcmp, 1) := by decide +kernel
theorem d_Law_law_311 : decode code 311 = .ok (.ifCond .eq 5, 3) := by decide +kernel
theorem d_Law_law_314 : decode code 314 = .ok (.iconst 0, 1) := by decide +kernel
theorem d_Law_law_315 : decode code 315 = .ok (.ireturn, 1) := by decide +kernel
theorem d_Law_law_316 : decode code 316 = .ok (.goto 887, 3) := by decide +kernel
theorem d_Law_law_319 : decode code 319 = .ok (.aload_n 1, 1) := by decide +kernel
theorem d_Law_law_320 : decode code 320 = .ok (.aload_n 0, 1) := by decide +kernel
theorem d_Law_law_321 : decode code 321 = .ok (.iload 4, 2) := by decide +kernel
theorem d_Law_law_323 : decode code 323 = .ok (.iconst 1, 1) := by decide +kernel
theorem d_Law_law_324 : decode code 324 = .ok (.iadd, 1) := by decide +kernel
theorem d_Law_law_325 : decode code 325 = .ok (.iaload, 1) := by decide +kernel
theorem d_Law_law_326 : decode code 326 = .ok (.aload_n 0, 1) := by decide +kernel
theorem d_Law_law_327 : decode code 327 = .ok (.iload 4, 2) := by decide +kernel
theorem d_Law_law_329 : decode code 329 = .ok (.iconst 2, 1) := by decide +kernel
theorem d_Law_law_330 : decode code 330 = .ok (.iadd, 1) := by decide +kernel
theorem d_Law_law_331 : decode code 331 = .ok (.iaload, 1) := by decide +kernel
theorem d_Law_law_332 : decode code 332 = .ok (.aload_n 0, 1) := by decide +kernel
theorem d_Law_law_333 : decode code 333 = .ok (.iload 4, 2) := by decide +kernel
theorem d_Law_law_335 : decode code 335 = .ok (.iconst 3, 1) := by decide +kernel
theorem d_Law_law_336 : decode code 336 = .ok (.iadd, 1) := by decide +kernel
theorem d_Law_law_337 : decode code 337 = .ok (.iaload, 1) := by decide +kernel
theorem d_Law_law_338 : decode code 338 = .ok (.aload_n 3, 1) := by decide +kernel
theorem d_Law_law_339 : decode code 339 = .ok (.invokestatic 86, 3) := by decide +kernel
theorem d_Law_law_342 : decode code 342 = .ok (.istore 5, 2) := by decide +kernel
theorem d_Law_law_344 : decode code 344 = .ok (.aload_n 2, 1) := by decide +kernel
theorem d_Law_law_345 : decode code 345 = .ok (.aload_n 0, 1) := by decide +kernel
theorem d_Law_law_346 : decode code 346 = .ok (.iload 4, 2) := by decide +kernel
theorem d_Law_law_348 : decode code 348 = .ok (.iconst 1, 1) := by decide +kernel
theorem d_Law_law_349 : decode code 349 = .ok (.iadd, 1) := by decide +kernel
theorem d_Law_law_350 : decode code 350 = .ok (.iaload, 1) := by decide +kernel
theorem d_Law_law_351 : decode code 351 = .ok (.aload_n 0, 1) := by decide +kernel
theorem d_Law_law_352 : decode code 352 = .ok (.iload 4, 2) := by decide +kernel
theorem d_Law_law_354 : decode code 354 = .ok (.iconst 2, 1) := by decide +kernel
theorem d_Law_law_355 : decode code 355 = .ok (.iadd, 1) := by decide +kernel
theorem d_Law_law_356 : decode code 356 = .ok (.iaload, 1) := by decide +kernel
theorem d_Law_law_357 : decode code 357 = .ok (.aload_n 0, 1) := by decide +kernel
theorem d_Law_law_358 : decode code 358 = .ok (.iload 4, 2) := by decide +kernel
theorem d_Law_law_360 : decode code 360 = .ok (.iconst 3, 1) := by decide +kernel
theorem d_Law_law_361 : decode code 361 = .ok (.iadd, 1) := by decide +kernel
theorem d_Law_law_362 : decode code 362 = .ok (.iaload, 1) := by decide +kernel
theorem d_Law_law_363 : decode code 363 = .ok (.invokevirtual 88, 3) := by decide +kernel
theorem d_Law_law_366 : decode code 366 = .ok (.istore 6, 2) := by decide +kernel
theorem d_Law_law_368 : decode code 368 = .ok (.aload_n 2, 1) := by decide +kernel
theorem d_Law_law_369 : decode code 369 = .ok (.invokevirtual 78, 3) := by decide +kernel
theorem d_Law_law_372 : decode code 372 = .ok (.iload 5, 2) := by decide +kernel
theorem d_Law_law_374 : decode code 374 = .ok (.if_icmp .eq 5, 3) := by decide +kernel
theorem d_Law_law_377 : decode code 377 = .ok (.iconst 0, 1) := by decide +kernel
theorem d_Law_law_378 : decode code 378 = .ok (.ireturn, 1) := by decide +kernel
theorem d_Law_law_379 : decode code 379 = .ok (.iload 5, 2) := by decide +kernel
theorem d_Law_law_381 : decode code 381 = .ok (.ifCond .ne 15, 3) := by decide +kernel
theorem d_Law_law_384 : decode code 384 = .ok (.aload_n 3, 1) := by decide +kernel
theorem d_Law_law_385 : decode code 385 = .ok (.iconst 0, 1) := by decide +kernel
theorem d_Law_law_386 : decode code 386 = .ok (.laload, 1) := by decide +kernel
theorem d_Law_law_387 : decode code 387 = .ok (.iload 6, 2) := by decide +kernel
theorem d_Law_law_389 : decode code 389 = .ok (.i2l, 1) := by decide +kernel
theorem d_Law_law_390 : decode code 390 = .ok (.lcmp, 1) := by decide +kernel
theorem d_Law_law_391 : decode code 391 = .ok (.ifCond .eq 5, 3) := by decide +kernel
theorem d_Law_law_394 : decode code 394 = .ok (.iconst 0, 1) := by decide +kernel
theorem d_Law_law_395 : decode code 395 = .ok (.ireturn, 1) := by decide +kernel
theorem d_Law_law_396 : decode code 396 = .ok (.goto 807, 3) := by decide +kernel
theorem d_Law_law_399 : decode code 399 = .ok (.aload_n 1, 1) := by decide +kernel
theorem d_Law_law_400 : decode code 400 = .ok (.aload_n 0, 1) := by decide +kernel
theorem d_Law_law_401 : decode code 401 = .ok (.iload 4, 2) := by decide +kernel
theorem d_Law_law_403 : decode code 403 = .ok (.iconst 1, 1) := by decide +kernel
theorem d_Law_law_404 : decode code 404 = .ok (.iadd, 1) := by decide +kernel
theorem d_Law_law_405 : decode code 405 = .ok (.iaload, 1) := by decide +kernel
theorem d_Law_law_406 : decode code 406 = .ok (.aload_n 0, 1) := by decide +kernel
theorem d_Law_law_407 : decode code 407 = .ok (.iload 4, 2) := by decide +kernel
theorem d_Law_law_409 : decode code 409 = .ok (.iconst 2, 1) := by decide +kernel
theorem d_Law_law_410 : decode code 410 = .ok (.iadd, 1) := by decide +kernel
theorem d_Law_law_411 : decode code 411 = .ok (.iaload, 1) := by decide +kernel
theorem d_Law_law_412 : decode code 412 = .ok (.aload_n 0, 1) := by decide +kernel
theorem d_Law_law_413 : decode code 413 = .ok (.iload 4, 2) := by decide +kernel
theorem d_Law_law_415 : decode code 415 = .ok (.iconst 3, 1) := by decide +kernel
theorem d_Law_law_416 : decode code 416 = .ok (.iadd, 1) := by decide +kernel
theorem d_Law_law_417 : decode code 417 = .ok (.iaload, 1) := by decide +kernel
theorem d_Law_law_418 : decode code 418 = .ok (.aload_n 3, 1) := by decide +kernel
theorem d_Law_law_419 : decode code 419 = .ok (.invokestatic 89, 3) := by decide +kernel
theorem d_Law_law_422 : decode code 422 = .ok (.istore 5, 2) := by decide +kernel
theorem d_Law_law_424 : decode code 424 = .ok (.aload_n 2, 1) := by decide +kernel
theorem d_Law_law_425 : decode code 425 = .ok (.aload_n 0, 1) := by decide +kernel
theorem d_Law_law_426 : decode code 426 = .ok (.iload 4, 2) := by decide +kernel
theorem d_Law_law_428 : decode code 428 = .ok (.iconst 1, 1) := by decide +kernel
theorem d_Law_law_429 : decode code 429 = .ok (.iadd, 1) := by decide +kernel
theorem d_Law_law_430 : decode code 430 = .ok (.iaload, 1) := by decide +kernel
theorem d_Law_law_431 : decode code 431 = .ok (.aload_n 0, 1) := by decide +kernel
theorem d_Law_law_432 : decode code 432 = .ok (.iload 4, 2) := by decide +kernel
theorem d_Law_law_434 : decode code 434 = .ok (.iconst 2, 1) := by decide +kernel
theorem d_Law_law_435 : decode code 435 = .ok (.iadd, 1) := by decide +kernel
theorem d_Law_law_436 : decode code 436 = .ok (.iaload, 1) := by decide +kernel
theorem d_Law_law_437 : decode code 437 = .ok (.aload_n 0, 1) := by decide +kernel
theorem d_Law_law_438 : decode code 438 = .ok (.iload 4, 2) := by decide +kernel
theorem d_Law_law_440 : decode code 440 = .ok (.iconst 3, 1) := by decide +kernel
theorem d_Law_law_441 : decode code 441 = .ok (.iadd, 1) := by decide +kernel
theorem d_Law_law_442 : decode code 442 = .ok (.iaload, 1) := by decide +kernel
theorem d_Law_law_443 : decode code 443 = .ok (.invokevirtual 91, 3) := by decide +kernel
theorem d_Law_law_446 : decode code 446 = .ok (.istore 6, 2) := by decide +kernel
theorem d_Law_law_448 : decode code 448 = .ok (.aload_n 2, 1) := by decide +kernel
theorem d_Law_law_449 : decode code 449 = .ok (.invokevirtual 78, 3) := by decide +kernel
theorem d_Law_law_452 : decode code 452 = .ok (.iload 5, 2) := by decide +kernel
theorem d_Law_law_454 : decode code 454 = .ok (.if_icmp .eq 5, 3) := by decide +kernel
theorem d_Law_law_457 : decode code 457 = .ok (.iconst 0, 1) := by decide +kernel
theorem d_Law_law_458 : decode code 458 = .ok (.ireturn, 1) := by decide +kernel
theorem d_Law_law_459 : decode code 459 = .ok (.iload 5, 2) := by decide +kernel
theorem d_Law_law_461 : decode code 461 = .ok (.ifCond .ne 15, 3) := by decide +kernel
theorem d_Law_law_464 : decode code 464 = .ok (.aload_n 3, 1) := by decide +kernel
theorem d_Law_law_465 : decode code 465 = .ok (.iconst 0, 1) := by decide +kernel
theorem d_Law_law_466 : decode code 466 = .ok (.laload, 1) := by decide +kernel
theorem d_Law_law_467 : decode code 467 = .ok (.iload 6, 2) := by decide +kernel
theorem d_Law_law_469 : decode code 469 = .ok (.i2l, 1) := by decide +kernel
theorem d_Law_law_470 : decode code 470 = .ok (.lcmp, 1) := by decide +kernel
theorem d_Law_law_471 : decode code 471 = .ok (.ifCond .eq 5, 3) := by decide +kernel
theorem d_Law_law_474 : decode code 474 = .ok (.iconst 0, 1) := by decide +kernel
theorem d_Law_law_475 : decode code 475 = .ok (.ireturn, 1) := by decide +kernel
theorem d_Law_law_476 : decode code 476 = .ok (.goto 727, 3) := by decide +kernel
theorem d_Law_law_479 : decode code 479 = .ok (.aload_n 1, 1) := by decide +kernel
theorem d_Law_law_480 : decode code 480 = .ok (.aload_n 0, 1) := by decide +kernel
theorem d_Law_law_481 : decode code 481 = .ok (.iload 4, 2) := by decide +kernel
theorem d_Law_law_483 : decode code 483 = .ok (.iconst 1, 1) := by decide +kernel
theorem d_Law_law_484 : decode code 484 = .ok (.iadd, 1) := by decide +kernel
theorem d_Law_law_485 : decode code 485 = .ok (.iaload, 1) := by decide +kernel
theorem d_Law_law_486 : decode code 486 = .ok (.aload_n 0, 1) := by decide +kernel
theorem d_Law_law_487 : decode code 487 = .ok (.iload 4, 2) := by decide +kernel
theorem d_Law_law_489 : decode code 489 = .ok (.iconst 2, 1) := by decide +kernel
theorem d_Law_law_490 : decode code 490 = .ok (.iadd, 1) := by decide +kernel
theorem d_Law_law_491 : decode code 491 = .ok (.iaload, 1) := by decide +kernel
theorem d_Law_law_492 : decode code 492 = .ok (.aload_n 0, 1) := by decide +kernel
theorem d_Law_law_493 : decode code 493 = .ok (.iload 4, 2) := by decide +kernel
theorem d_Law_law_495 : decode code 495 = .ok (.iconst 3, 1) := by decide +kernel
theorem d_Law_law_496 : decode code 496 = .ok (.iadd, 1) := by decide +kernel
theorem d_Law_law_497 : decode code 497 = .ok (.iaload, 1) := by decide +kernel
theorem d_Law_law_498 : decode code 498 = .ok (.aload_n 3, 1) := by decide +kernel
theorem d_Law_law_499 : decode code 499 = .ok (.invokestatic 92, 3) := by decide +kernel
theorem d_Law_law_502 : decode code 502 = .ok (.istore 5, 2) := by decide +kernel
theorem d_Law_law_504 : decode code 504 = .ok (.aload_n 2, 1) := by decide +kernel
theorem d_Law_law_505 : decode code 505 = .ok (.aload_n 0, 1) := by decide +kernel
theorem d_Law_law_506 : decode code 506 = .ok (.iload 4, 2) := by decide +kernel
theorem d_Law_law_508 : decode code 508 = .ok (.iconst 1, 1) := by decide +kernel
theorem d_Law_law_509 : decode code 509 = .ok (.iadd, 1) := by decide +kernel
theorem d_Law_law_510 : decode code 510 = .ok (.iaload, 1) := by decide +kernel
theorem d_Law_law_511 : decode code 511 = .ok (.aload_n 0, 1) := by decide +kernel
theorem d_Law_law_512 : decode code 512 = .ok (.iload 4, 2) := by decide +kernel
theorem d_Law_law_514 : decode code 514 = .ok (.iconst 2, 1) := by decide +kernel
theorem d_Law_law_515 : decode code 515 = .ok (.iadd, 1) := by decide +kernel
theorem d_Law_law_516 : decode code 516 = .ok (.iaload, 1) := by decide +kernel
theorem d_Law_law_517 : decode code 517 = .ok (.aload_n 0, 1) := by decide +kernel
theorem d_Law_law_518 : decode code 518 = .ok (.iload 4, 2) := by decide +kernel
theorem d_Law_law_520 : decode code 520 = .ok (.iconst 3, 1) := by decide +kernel
theorem d_Law_law_521 : decode code 521 = .ok (.iadd, 1) := by decide +kernel
theorem d_Law_law_522 : decode code 522 = .ok (.iaload, 1) := by decide +kernel
theorem d_Law_law_523 : decode code 523 = .ok (.invokevirtual 94, 3) := by decide +kernel
theorem d_Law_law_526 : decode code 526 = .ok (.istore 6, 2) := by decide +kernel
theorem d_Law_law_528 : decode code 528 = .ok (.aload_n 2, 1) := by decide +kernel
theorem d_Law_law_529 : decode code 529 = .ok (.invokevirtual 78, 3) := by decide +kernel
theorem d_Law_law_532 : decode code 532 = .ok (.iload 5, 2) := by decide +kernel
theorem d_Law_law_534 : decode code 534 = .ok (.if_icmp .eq 5, 3) := by decide +kernel
theorem d_Law_law_537 : decode code 537 = .ok (.iconst 0, 1) := by decide +kernel
theorem d_Law_law_538 : decode code 538 = .ok (.ireturn, 1) := by decide +kernel
theorem d_Law_law_539 : decode code 539 = .ok (.iload 5, 2) := by decide +kernel
theorem d_Law_law_541 : decode code 541 = .ok (.ifCond .ne 15, 3) := by decide +kernel
theorem d_Law_law_544 : decode code 544 = .ok (.aload_n 3, 1) := by decide +kernel
theorem d_Law_law_545 : decode code 545 = .ok (.iconst 0, 1) := by decide +kernel
theorem d_Law_law_546 : decode code 546 = .ok (.laload, 1) := by decide +kernel
theorem d_Law_law_547 : decode code 547 = .ok (.iload 6, 2) := by decide +kernel
theorem d_Law_law_549 : decode code 549 = .ok (.i2l, 1) := by decide +kernel
theorem d_Law_law_550 : decode code 550 = .ok (.lcmp, 1) := by decide +kernel
theorem d_Law_law_551 : decode code 551 = .ok (.ifCond .eq 5, 3) := by decide +kernel
theorem d_Law_law_554 : decode code 554 = .ok (.iconst 0, 1) := by decide +kernel
theorem d_Law_law_555 : decode code 555 = .ok (.ireturn, 1) := by decide +kernel
theorem d_Law_law_556 : decode code 556 = .ok (.goto 647, 3) := by decide +kernel
theorem d_Law_law_559 : decode code 559 = .ok (.aload_n 1, 1) := by decide +kernel
theorem d_Law_law_560 : decode code 560 = .ok (.aload_n 0, 1) := by decide +kernel
theorem d_Law_law_561 : decode code 561 = .ok (.iload 4, 2) := by decide +kernel
theorem d_Law_law_563 : decode code 563 = .ok (.iconst 1, 1) := by decide +kernel
theorem d_Law_law_564 : decode code 564 = .ok (.iadd, 1) := by decide +kernel
theorem d_Law_law_565 : decode code 565 = .ok (.iaload, 1) := by decide +kernel
theorem d_Law_law_566 : decode code 566 = .ok (.aload_n 0, 1) := by decide +kernel
theorem d_Law_law_567 : decode code 567 = .ok (.iload 4, 2) := by decide +kernel
theorem d_Law_law_569 : decode code 569 = .ok (.iconst 2, 1) := by decide +kernel
theorem d_Law_law_570 : decode code 570 = .ok (.iadd, 1) := by decide +kernel
theorem d_Law_law_571 : decode code 571 = .ok (.iaload, 1) := by decide +kernel
theorem d_Law_law_572 : decode code 572 = .ok (.aload_n 3, 1) := by decide +kernel
theorem d_Law_law_573 : decode code 573 = .ok (.invokestatic 95, 3) := by decide +kernel
theorem d_Law_law_576 : decode code 576 = .ok (.istore 5, 2) := by decide +kernel
theorem d_Law_law_578 : decode code 578 = .ok (.aload_n 2, 1) := by decide +kernel
theorem d_Law_law_579 : decode code 579 = .ok (.aload_n 0, 1) := by decide +kernel
theorem d_Law_law_580 : decode code 580 = .ok (.iload 4, 2) := by decide +kernel
theorem d_Law_law_582 : decode code 582 = .ok (.iconst 1, 1) := by decide +kernel
theorem d_Law_law_583 : decode code 583 = .ok (.iadd, 1) := by decide +kernel
theorem d_Law_law_584 : decode code 584 = .ok (.iaload, 1) := by decide +kernel
theorem d_Law_law_585 : decode code 585 = .ok (.aload_n 0, 1) := by decide +kernel
theorem d_Law_law_586 : decode code 586 = .ok (.iload 4, 2) := by decide +kernel
theorem d_Law_law_588 : decode code 588 = .ok (.iconst 2, 1) := by decide +kernel
theorem d_Law_law_589 : decode code 589 = .ok (.iadd, 1) := by decide +kernel
theorem d_Law_law_590 : decode code 590 = .ok (.iaload, 1) := by decide +kernel
theorem d_Law_law_591 : decode code 591 = .ok (.invokevirtual 98, 3) := by decide +kernel
theorem d_Law_law_594 : decode code 594 = .ok (.istore 6, 2) := by decide +kernel
theorem d_Law_law_596 : decode code 596 = .ok (.aload_n 2, 1) := by decide +kernel
theorem d_Law_law_597 : decode code 597 = .ok (.invokevirtual 78, 3) := by decide +kernel
theorem d_Law_law_600 : decode code 600 = .ok (.iload 5, 2) := by decide +kernel
theorem d_Law_law_602 : decode code 602 = .ok (.if_icmp .eq 5, 3) := by decide +kernel
theorem d_Law_law_605 : decode code 605 = .ok (.iconst 0, 1) := by decide +kernel
theorem d_Law_law_606 : decode code 606 = .ok (.ireturn, 1) := by decide +kernel
theorem d_Law_law_607 : decode code 607 = .ok (.iload 5, 2) := by decide +kernel
theorem d_Law_law_609 : decode code 609 = .ok (.ifCond .ne 15, 3) := by decide +kernel
theorem d_Law_law_612 : decode code 612 = .ok (.aload_n 3, 1) := by decide +kernel
theorem d_Law_law_613 : decode code 613 = .ok (.iconst 0, 1) := by decide +kernel
theorem d_Law_law_614 : decode code 614 = .ok (.laload, 1) := by decide +kernel
theorem d_Law_law_615 : decode code 615 = .ok (.iload 6, 2) := by decide +kernel
theorem d_Law_law_617 : decode code 617 = .ok (.i2l, 1) := by decide +kernel
theorem d_Law_law_618 : decode code 618 = .ok (.lcmp, 1) := by decide +kernel
theorem d_Law_law_619 : decode code 619 = .ok (.ifCond .eq 5, 3) := by decide +kernel
theorem d_Law_law_622 : decode code 622 = .ok (.iconst 0, 1) := by decide +kernel
theorem d_Law_law_623 : decode code 623 = .ok (.ireturn, 1) := by decide +kernel
theorem d_Law_law_624 : decode code 624 = .ok (.goto 579, 3) := by decide +kernel
theorem d_Law_law_627 : decode code 627 = .ok (.aload_n 1, 1) := by decide +kernel
theorem d_Law_law_628 : decode code 628 = .ok (.aload_n 0, 1) := by decide +kernel
theorem d_Law_law_629 : decode code 629 = .ok (.iload 4, 2) := by decide +kernel
theorem d_Law_law_631 : decode code 631 = .ok (.iconst 1, 1) := by decide +kernel
theorem d_Law_law_632 : decode code 632 = .ok (.iadd, 1) := by decide +kernel
theorem d_Law_law_633 : decode code 633 = .ok (.iaload, 1) := by decide +kernel
theorem d_Law_law_634 : decode code 634 = .ok (.aload_n 0, 1) := by decide +kernel
theorem d_Law_law_635 : decode code 635 = .ok (.iload 4, 2) := by decide +kernel
theorem d_Law_law_637 : decode code 637 = .ok (.iconst 2, 1) := by decide +kernel
theorem d_Law_law_638 : decode code 638 = .ok (.iadd, 1) := by decide +kernel
theorem d_Law_law_639 : decode code 639 = .ok (.iaload, 1) := by decide +kernel
theorem d_Law_law_640 : decode code 640 = .ok (.aload_n 0, 1) := by decide +kernel
theorem d_Law_law_641 : decode code 641 = .ok (.iload 4, 2) := by decide +kernel
theorem d_Law_law_643 : decode code 643 = .ok (.iconst 3, 1) := by decide +kernel
theorem d_Law_law_644 : decode code 644 = .ok (.iadd, 1) := by decide +kernel
theorem d_Law_law_645 : decode code 645 = .ok (.iaload, 1) := by decide +kernel
theorem d_Law_law_646 : decode code 646 = .ok (.ifCond .eq 7, 3) := by decide +kernel
theorem d_Law_law_649 : decode code 649 = .ok (.iconst 1, 1) := by decide +kernel
theorem d_Law_law_650 : decode code 650 = .ok (.goto 4, 3) := by decide +kernel
theorem d_Law_law_653 : decode code 653 = .ok (.iconst 0, 1) := by decide +kernel
theorem d_Law_law_654 : decode code 654 = .ok (.aload_n 3, 1) := by decide +kernel
theorem d_Law_law_655 : decode code 655 = .ok (.invokestatic 99, 3) := by decide +kernel
theorem d_Law_law_658 : decode code 658 = .ok (.istore 5, 2) := by decide +kernel
theorem d_Law_law_660 : decode code 660 = .ok (.aload_n 2, 1) := by decide +kernel
theorem d_Law_law_661 : decode code 661 = .ok (.aload_n 0, 1) := by decide +kernel
theorem d_Law_law_662 : decode code 662 = .ok (.iload 4, 2) := by decide +kernel
theorem d_Law_law_664 : decode code 664 = .ok (.iconst 1, 1) := by decide +kernel
theorem d_Law_law_665 : decode code 665 = .ok (.iadd, 1) := by decide +kernel
theorem d_Law_law_666 : decode code 666 = .ok (.iaload, 1) := by decide +kernel
theorem d_Law_law_667 : decode code 667 = .ok (.aload_n 0, 1) := by decide +kernel
theorem d_Law_law_668 : decode code 668 = .ok (.iload 4, 2) := by decide +kernel
theorem d_Law_law_670 : decode code 670 = .ok (.iconst 2, 1) := by decide +kernel
theorem d_Law_law_671 : decode code 671 = .ok (.iadd, 1) := by decide +kernel
theorem d_Law_law_672 : decode code 672 = .ok (.iaload, 1) := by decide +kernel
theorem d_Law_law_673 : decode code 673 = .ok (.aload_n 0, 1) := by decide +kernel
theorem d_Law_law_674 : decode code 674 = .ok (.iload 4, 2) := by decide +kernel
theorem d_Law_law_676 : decode code 676 = .ok (.iconst 3, 1) := by decide +kernel
theorem d_Law_law_677 : decode code 677 = .ok (.iadd, 1) := by decide +kernel
theorem d_Law_law_678 : decode code 678 = .ok (.iaload, 1) := by decide +kernel
theorem d_Law_law_679 : decode code 679 = .ok (.ifCond .eq 7, 3) := by decide +kernel
theorem d_Law_law_682 : decode code 682 = .ok (.iconst 1, 1) := by decide +kernel
theorem d_Law_law_683 : decode code 683 = .ok (.goto 4, 3) := by decide +kernel
theorem d_Law_law_686 : decode code 686 = .ok (.iconst 0, 1) := by decide +kernel
theorem d_Law_law_687 : decode code 687 = .ok (.invokevirtual 101, 3) := by decide +kernel
theorem d_Law_law_690 : decode code 690 = .ok (.istore 6, 2) := by decide +kernel
theorem d_Law_law_692 : decode code 692 = .ok (.aload_n 2, 1) := by decide +kernel
theorem d_Law_law_693 : decode code 693 = .ok (.invokevirtual 78, 3) := by decide +kernel
theorem d_Law_law_696 : decode code 696 = .ok (.iload 5, 2) := by decide +kernel
theorem d_Law_law_698 : decode code 698 = .ok (.if_icmp .eq 5, 3) := by decide +kernel
theorem d_Law_law_701 : decode code 701 = .ok (.iconst 0, 1) := by decide +kernel
theorem d_Law_law_702 : decode code 702 = .ok (.ireturn, 1) := by decide +kernel
theorem d_Law_law_703 : decode code 703 = .ok (.iload 5, 2) := by decide +kernel
theorem d_Law_law_705 : decode code 705 = .ok (.ifCond .ne 22, 3) := by decide +kernel
theorem d_Law_law_708 : decode code 708 = .ok (.aload_n 3, 1) := by decide +kernel
theorem d_Law_law_709 : decode code 709 = .ok (.iconst 0, 1) := by decide +kernel
theorem d_Law_law_710 : decode code 710 = .ok (.laload, 1) := by decide +kernel
theorem d_Law_law_711 : decode code 711 = .ok (.iload 6, 2) := by decide +kernel
theorem d_Law_law_713 : decode code 713 = .ok (.ifCond .eq 7, 3) := by decide +kernel
theorem d_Law_law_716 : decode code 716 = .ok (.lconst 1, 1) := by decide +kernel
theorem d_Law_law_717 : decode code 717 = .ok (.goto 4, 3) := by decide +kernel
theorem d_Law_law_720 : decode code 720 = .ok (.lconst 0, 1) := by decide +kernel
theorem d_Law_law_721 : decode code 721 = .ok (.lcmp, 1) := by decide +kernel
theorem d_Law_law_722 : decode code 722 = .ok (.ifCond .eq 5, 3) := by decide +kernel
theorem d_Law_law_725 : decode code 725 = .ok (.iconst 0, 1) := by decide +kernel
theorem d_Law_law_726 : decode code 726 = .ok (.ireturn, 1) := by decide +kernel
theorem d_Law_law_727 : decode code 727 = .ok (.goto 476, 3) := by decide +kernel
theorem d_Law_law_730 : decode code 730 = .ok (.aload_n 1, 1) := by decide +kernel
theorem d_Law_law_731 : decode code 731 = .ok (.aload_n 0, 1) := by decide +kernel
theorem d_Law_law_732 : decode code 732 = .ok (.iload 4, 2) := by decide +kernel
theorem d_Law_law_734 : decode code 734 = .ok (.iconst 1, 1) := by decide +kernel
theorem d_Law_law_735 : decode code 735 = .ok (.iadd, 1) := by decide +kernel
theorem d_Law_law_736 : decode code 736 = .ok (.iaload, 1) := by decide +kernel
theorem d_Law_law_737 : decode code 737 = .ok (.aload_n 0, 1) := by decide +kernel
theorem d_Law_law_738 : decode code 738 = .ok (.iload 4, 2) := by decide +kernel
theorem d_Law_law_740 : decode code 740 = .ok (.iconst 2, 1) := by decide +kernel
theorem d_Law_law_741 : decode code 741 = .ok (.iadd, 1) := by decide +kernel
theorem d_Law_law_742 : decode code 742 = .ok (.iaload, 1) := by decide +kernel
theorem d_Law_law_743 : decode code 743 = .ok (.aload_n 3, 1) := by decide +kernel
theorem d_Law_law_744 : decode code 744 = .ok (.invokestatic 102, 3) := by decide +kernel
theorem d_Law_law_747 : decode code 747 = .ok (.istore 5, 2) := by decide +kernel
theorem d_Law_law_749 : decode code 749 = .ok (.aload_n 2, 1) := by decide +kernel
theorem d_Law_law_750 : decode code 750 = .ok (.aload_n 0, 1) := by decide +kernel
theorem d_Law_law_751 : decode code 751 = .ok (.iload 4, 2) := by decide +kernel
theorem d_Law_law_753 : decode code 753 = .ok (.iconst 1, 1) := by decide +kernel
theorem d_Law_law_754 : decode code 754 = .ok (.iadd, 1) := by decide +kernel
theorem d_Law_law_755 : decode code 755 = .ok (.iaload, 1) := by decide +kernel
theorem d_Law_law_756 : decode code 756 = .ok (.aload_n 0, 1) := by decide +kernel
theorem d_Law_law_757 : decode code 757 = .ok (.iload 4, 2) := by decide +kernel
theorem d_Law_law_759 : decode code 759 = .ok (.iconst 2, 1) := by decide +kernel
theorem d_Law_law_760 : decode code 760 = .ok (.iadd, 1) := by decide +kernel
theorem d_Law_law_761 : decode code 761 = .ok (.iaload, 1) := by decide +kernel
theorem d_Law_law_762 : decode code 762 = .ok (.invokevirtual 104, 3) := by decide +kernel
theorem d_Law_law_765 : decode code 765 = .ok (.istore 6, 2) := by decide +kernel
theorem d_Law_law_767 : decode code 767 = .ok (.aload_n 2, 1) := by decide +kernel
theorem d_Law_law_768 : decode code 768 = .ok (.invokevirtual 78, 3) := by decide +kernel
theorem d_Law_law_771 : decode code 771 = .ok (.iload 5, 2) := by decide +kernel
theorem d_Law_law_773 : decode code 773 = .ok (.if_icmp .eq 5, 3) := by decide +kernel
theorem d_Law_law_776 : decode code 776 = .ok (.iconst 0, 1) := by decide +kernel
theorem d_Law_law_777 : decode code 777 = .ok (.ireturn, 1) := by decide +kernel
theorem d_Law_law_778 : decode code 778 = .ok (.iload 5, 2) := by decide +kernel
theorem d_Law_law_780 : decode code 780 = .ok (.ifCond .ne 15, 3) := by decide +kernel
theorem d_Law_law_783 : decode code 783 = .ok (.aload_n 3, 1) := by decide +kernel
theorem d_Law_law_784 : decode code 784 = .ok (.iconst 0, 1) := by decide +kernel
theorem d_Law_law_785 : decode code 785 = .ok (.laload, 1) := by decide +kernel
theorem d_Law_law_786 : decode code 786 = .ok (.iload 6, 2) := by decide +kernel
theorem d_Law_law_788 : decode code 788 = .ok (.i2l, 1) := by decide +kernel
theorem d_Law_law_789 : decode code 789 = .ok (.lcmp, 1) := by decide +kernel
theorem d_Law_law_790 : decode code 790 = .ok (.ifCond .eq 5, 3) := by decide +kernel
theorem d_Law_law_793 : decode code 793 = .ok (.iconst 0, 1) := by decide +kernel
theorem d_Law_law_794 : decode code 794 = .ok (.ireturn, 1) := by decide +kernel
theorem d_Law_law_795 : decode code 795 = .ok (.goto 408, 3) := by decide +kernel
theorem d_Law_law_798 : decode code 798 = .ok (.aload_n 1, 1) := by decide +kernel
theorem d_Law_law_799 : decode code 799 = .ok (.aload_n 0, 1) := by decide +kernel
theorem d_Law_law_800 : decode code 800 = .ok (.iload 4, 2) := by decide +kernel
theorem d_Law_law_802 : decode code 802 = .ok (.iconst 1, 1) := by decide +kernel
theorem d_Law_law_803 : decode code 803 = .ok (.iadd, 1) := by decide +kernel
theorem d_Law_law_804 : decode code 804 = .ok (.iaload, 1) := by decide +kernel
theorem d_Law_law_805 : decode code 805 = .ok (.aload_n 3, 1) := by decide +kernel
theorem d_Law_law_806 : decode code 806 = .ok (.invokestatic 105, 3) := by decide +kernel
theorem d_Law_law_809 : decode code 809 = .ok (.istore 5, 2) := by decide +kernel
theorem d_Law_law_811 : decode code 811 = .ok (.aload_n 2, 1) := by decide +kernel
theorem d_Law_law_812 : decode code 812 = .ok (.aload_n 0, 1) := by decide +kernel
theorem d_Law_law_813 : decode code 813 = .ok (.iload 4, 2) := by decide +kernel
theorem d_Law_law_815 : decode code 815 = .ok (.iconst 1, 1) := by decide +kernel
theorem d_Law_law_816 : decode code 816 = .ok (.iadd, 1) := by decide +kernel
theorem d_Law_law_817 : decode code 817 = .ok (.iaload, 1) := by decide +kernel
theorem d_Law_law_818 : decode code 818 = .ok (.invokevirtual 108, 3) := by decide +kernel
theorem d_Law_law_821 : decode code 821 = .ok (.istore 6, 2) := by decide +kernel
theorem d_Law_law_823 : decode code 823 = .ok (.aload_n 2, 1) := by decide +kernel
theorem d_Law_law_824 : decode code 824 = .ok (.invokevirtual 78, 3) := by decide +kernel
theorem d_Law_law_827 : decode code 827 = .ok (.iload 5, 2) := by decide +kernel
theorem d_Law_law_829 : decode code 829 = .ok (.if_icmp .eq 5, 3) := by decide +kernel
theorem d_Law_law_832 : decode code 832 = .ok (.iconst 0, 1) := by decide +kernel
theorem d_Law_law_833 : decode code 833 = .ok (.ireturn, 1) := by decide +kernel
theorem d_Law_law_834 : decode code 834 = .ok (.iload 5, 2) := by decide +kernel
theorem d_Law_law_836 : decode code 836 = .ok (.ifCond .ne 15, 3) := by decide +kernel
theorem d_Law_law_839 : decode code 839 = .ok (.aload_n 3, 1) := by decide +kernel
theorem d_Law_law_840 : decode code 840 = .ok (.iconst 0, 1) := by decide +kernel
theorem d_Law_law_841 : decode code 841 = .ok (.laload, 1) := by decide +kernel
theorem d_Law_law_842 : decode code 842 = .ok (.iload 6, 2) := by decide +kernel
theorem d_Law_law_844 : decode code 844 = .ok (.i2l, 1) := by decide +kernel
theorem d_Law_law_845 : decode code 845 = .ok (.lcmp, 1) := by decide +kernel
theorem d_Law_law_846 : decode code 846 = .ok (.ifCond .eq 5, 3) := by decide +kernel
theorem d_Law_law_849 : decode code 849 = .ok (.iconst 0, 1) := by decide +kernel
theorem d_Law_law_850 : decode code 850 = .ok (.ireturn, 1) := by decide +kernel
theorem d_Law_law_851 : decode code 851 = .ok (.goto 352, 3) := by decide +kernel
theorem d_Law_law_854 : decode code 854 = .ok (.aload_n 1, 1) := by decide +kernel
theorem d_Law_law_855 : decode code 855 = .ok (.aload_n 0, 1) := by decide +kernel
theorem d_Law_law_856 : decode code 856 = .ok (.iload 4, 2) := by decide +kernel
theorem d_Law_law_858 : decode code 858 = .ok (.iconst 1, 1) := by decide +kernel
theorem d_Law_law_859 : decode code 859 = .ok (.iadd, 1) := by decide +kernel
theorem d_Law_law_860 : decode code 860 = .ok (.iaload, 1) := by decide +kernel
theorem d_Law_law_861 : decode code 861 = .ok (.aload_n 3, 1) := by decide +kernel
theorem d_Law_law_862 : decode code 862 = .ok (.invokestatic 109, 3) := by decide +kernel
theorem d_Law_law_865 : decode code 865 = .ok (.istore 5, 2) := by decide +kernel
theorem d_Law_law_867 : decode code 867 = .ok (.aload_n 2, 1) := by decide +kernel
theorem d_Law_law_868 : decode code 868 = .ok (.aload_n 0, 1) := by decide +kernel
theorem d_Law_law_869 : decode code 869 = .ok (.iload 4, 2) := by decide +kernel
theorem d_Law_law_871 : decode code 871 = .ok (.iconst 1, 1) := by decide +kernel
theorem d_Law_law_872 : decode code 872 = .ok (.iadd, 1) := by decide +kernel
theorem d_Law_law_873 : decode code 873 = .ok (.iaload, 1) := by decide +kernel
theorem d_Law_law_874 : decode code 874 = .ok (.invokevirtual 111, 3) := by decide +kernel
theorem d_Law_law_877 : decode code 877 = .ok (.istore 6, 2) := by decide +kernel
theorem d_Law_law_879 : decode code 879 = .ok (.aload_n 2, 1) := by decide +kernel
theorem d_Law_law_880 : decode code 880 = .ok (.invokevirtual 78, 3) := by decide +kernel
theorem d_Law_law_883 : decode code 883 = .ok (.iload 5, 2) := by decide +kernel
theorem d_Law_law_885 : decode code 885 = .ok (.if_icmp .eq 5, 3) := by decide +kernel
theorem d_Law_law_888 : decode code 888 = .ok (.iconst 0, 1) := by decide +kernel
theorem d_Law_law_889 : decode code 889 = .ok (.ireturn, 1) := by decide +kernel
theorem d_Law_law_890 : decode code 890 = .ok (.iload 5, 2) := by decide +kernel
theorem d_Law_law_892 : decode code 892 = .ok (.ifCond .ne 15, 3) := by decide +kernel
theorem d_Law_law_895 : decode code 895 = .ok (.aload_n 3, 1) := by decide +kernel
theorem d_Law_law_896 : decode code 896 = .ok (.iconst 0, 1) := by decide +kernel
theorem d_Law_law_897 : decode code 897 = .ok (.laload, 1) := by decide +kernel
theorem d_Law_law_898 : decode code 898 = .ok (.iload 6, 2) := by decide +kernel
theorem d_Law_law_900 : decode code 900 = .ok (.i2l, 1) := by decide +kernel
theorem d_Law_law_901 : decode code 901 = .ok (.lcmp, 1) := by decide +kernel
