/-! The code of the law, instruction by instruction -/
theorem d_LW_law_416 : decode code 416 = .ok (.iaload, 1) := by decide +kernel
theorem d_LW_law_417 : decode code 417 = .ok (.invokevirtual 68, 3) := by decide +kernel
theorem d_LW_law_420 : decode code 420 = .ok (.if_icmp .eq 229, 3) := by decide +kernel
theorem d_LW_law_423 : decode code 423 = .ok (.iconst 0, 1) := by decide +kernel
theorem d_LW_law_424 : decode code 424 = .ok (.ireturn, 1) := by decide +kernel
theorem d_LW_law_425 : decode code 425 = .ok (.aload_n 1, 1) := by decide +kernel
theorem d_LW_law_426 : decode code 426 = .ok (.aload_n 0, 1) := by decide +kernel
theorem d_LW_law_427 : decode code 427 = .ok (.iload_n 3, 1) := by decide +kernel
theorem d_LW_law_428 : decode code 428 = .ok (.iconst 1, 1) := by decide +kernel
theorem d_LW_law_429 : decode code 429 = .ok (.iadd, 1) := by decide +kernel
theorem d_LW_law_430 : decode code 430 = .ok (.iaload, 1) := by decide +kernel
theorem d_LW_law_431 : decode code 431 = .ok (.aload_n 0, 1) := by decide +kernel
theorem d_LW_law_432 : decode code 432 = .ok (.iload_n 3, 1) := by decide +kernel
theorem d_LW_law_433 : decode code 433 = .ok (.iconst 2, 1) := by decide +kernel
theorem d_LW_law_434 : decode code 434 = .ok (.iadd, 1) := by decide +kernel
theorem d_LW_law_435 : decode code 435 = .ok (.iaload, 1) := by decide +kernel
theorem d_LW_law_436 : decode code 436 = .ok (.invokevirtual 69, 3) := by decide +kernel
theorem d_LW_law_439 : decode code 439 = .ok (.aload_n 2, 1) := by decide +kernel
theorem d_LW_law_440 : decode code 440 = .ok (.aload_n 0, 1) := by decide +kernel
theorem d_LW_law_441 : decode code 441 = .ok (.iload_n 3, 1) := by decide +kernel
theorem d_LW_law_442 : decode code 442 = .ok (.iconst 1, 1) := by decide +kernel
theorem d_LW_law_443 : decode code 443 = .ok (.iadd, 1) := by decide +kernel
theorem d_LW_law_444 : decode code 444 = .ok (.iaload, 1) := by decide +kernel
theorem d_LW_law_445 : decode code 445 = .ok (.aload_n 0, 1) := by decide +kernel
theorem d_LW_law_446 : decode code 446 = .ok (.iload_n 3, 1) := by decide +kernel
theorem d_LW_law_447 : decode code 447 = .ok (.iconst 2, 1) := by decide +kernel
theorem d_LW_law_448 : decode code 448 = .ok (.iadd, 1) := by decide +kernel
theorem d_LW_law_449 : decode code 449 = .ok (.iaload, 1) := by decide +kernel
theorem d_LW_law_450 : decode code 450 = .ok (.invokevirtual 72, 3) := by decide +kernel
theorem d_LW_law_453 : decode code 453 = .ok (.if_icmp .eq 196, 3) := by decide +kernel
theorem d_LW_law_456 : decode code 456 = .ok (.iconst 0, 1) := by decide +kernel
theorem d_LW_law_457 : decode code 457 = .ok (.ireturn, 1) := by decide +kernel
theorem d_LW_law_458 : decode code 458 = .ok (.aload_n 1, 1) := by decide +kernel
theorem d_LW_law_459 : decode code 459 = .ok (.aload_n 0, 1) := by decide +kernel
theorem d_LW_law_460 : decode code 460 = .ok (.iload_n 3, 1) := by decide +kernel
theorem d_LW_law_461 : decode code 461 = .ok (.iconst 1, 1) := by decide +kernel
theorem d_LW_law_462 : decode code 462 = .ok (.iadd, 1) := by decide +kernel
theorem d_LW_law_463 : decode code 463 = .ok (.iaload, 1) := by decide +kernel
theorem d_LW_law_464 : decode code 464 = .ok (.aload_n 0, 1) := by decide +kernel
theorem d_LW_law_465 : decode code 465 = .ok (.iload_n 3, 1) := by decide +kernel
theorem d_LW_law_466 : decode code 466 = .ok (.iconst 2, 1) := by decide +kernel
theorem d_LW_law_467 : decode code 467 = .ok (.iadd, 1) := by decide +kernel
theorem d_LW_law_468 : decode code 468 = .ok (.iaload, 1) := by decide +kernel
theorem d_LW_law_469 : decode code 469 = .ok (.invokevirtual 73, 3) := by decide +kernel
theorem d_LW_law_472 : decode code 472 = .ok (.aload_n 2, 1) := by decide +kernel
theorem d_LW_law_473 : decode code 473 = .ok (.aload_n 0, 1) := by decide +kernel
theorem d_LW_law_474 : decode code 474 = .ok (.iload_n 3, 1) := by decide +kernel
theorem d_LW_law_475 : decode code 475 = .ok (.iconst 1, 1) := by decide +kernel
theorem d_LW_law_476 : decode code 476 = .ok (.iadd, 1) := by decide +kernel
theorem d_LW_law_477 : decode code 477 = .ok (.iaload, 1) := by decide +kernel
